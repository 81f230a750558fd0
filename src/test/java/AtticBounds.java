/** Boundary cases of promises 1 to 13: attics, stars, chimneys, rules, lots. */
final class AtticBounds {
    private final Bounds b;

    AtticBounds(Bounds bounds) {
        b = bounds;
    }

    void all() {
        newObject();
        attic();
        told();
        as();
        turns();
        set();
        star();
        starOf();
        chimney();
        smokes();
        rule();
        deal();
        seed();
    }

    private void newObject() {
        b.about("Promise 1", "As told; no ATTICS.");
        b.run("count 0 = 0; count 1 = 0; count 2 = 0; count 3 = 0; count 4 = 0; count 5 = 0; count 6 = 0; count 7 = 1");
        b.run("town 0 = 0; town 1 = 0; town 2 = 0; town 3 = 0; town 4 = 0; town 5 = 255; town 6 = 0; fee = 0; cover 0 = 0; "
            + "cover 1 = NONE");
        b.run("starOf 0 0 = 0; starOf 7 0 = 21; starOf 0 1 = 5; starOf 7 1 = 5; starOf 7 2 = 21; starOf 7 3 = 0; smokes 0 = 0; "
            + "smokes 23 = 0");
        b.run("rule 0 0 = 10; rule 1 0 = 0; rule 2 0 = 50; seed 0 = 1");
        b.refusedIn("", "told 0 0 = BAD; as 0 0 = BAD; turns 0 0 = BAD; set 0 1 0 = BAD; behind 0 3 = BAD; debt 0 0 = BAD; "
            + "rises 0 0 = BAD; turned 0 1 0 = BAD; becomes 0 1 0 = BAD; fine 0 = BAD; textTold 0 0 = BAD; why 0 = NONE; "
            + "trim 1 = BAD; back = NO; check 1 = NO; like 0 0 = NOTHING; mark 0 0 0 = NOTHING; pour 3 = NOTHING; "
            + "reads 0 = NOTHING; copy 0 0 3 0 0 = NOTHING; lay 0 1 0 = BAD; lay 0 2 0 = NOTHING; ask 0 0 = NOTHING; "
            + "item 4 0 = NOTHING; rest 0 0 = NOTHING; text = -100");
        b.run("hours 100 = 0; town 0 = 0; town 1 = 0; count 1 = 100; town 4 = 0; stands 60 0 = 0; stands 60 1 = 0; "
            + "behind 100 0 = 0");
    }

    private void attic() {
        b.about("Promise 2", "One more ATTIC: its number.");
        b.run("attic 0 0 1 = 0; attic 5 23 12 = 1; attic 4 1 2 = 2; attic 3 2 3 = 3; attic 2 3 4 = 4; attic 1 4 5 = 5; "
            + "attic 0 5 6 = 6; attic 0 6 7 = 7; told 0 0 = 0; told 0 1 = 0; told 0 2 = 1; told 1 0 = 5; told 1 1 = 23; "
            + "told 1 2 = 12; told 7 1 = 6; told 7 2 = 7; told 7 3 = 0; told 7 4 = 0; count 0 = 8");
        b.run("keep; attic 1 1 1; set 0 3 9; set 0 4 8; back; attic 2 2 2 = 0; told 0 0 = 2; told 0 3 = 0; told 0 4 = 0");
        b.about("Promise 2", "BAD;");
        b.refused("attic -1 0 1 = BAD; attic 6 0 1 = BAD; attic 0 -1 1 = BAD; attic 0 24 1 = BAD; attic 0 0 0 = BAD; "
            + "attic 0 0 13 = BAD");
        b.refusedIn(Towns.FULL, "attic -1 0 1 = BAD; attic 6 0 1 = BAD; attic 0 -1 1 = BAD; attic 0 24 1 = BAD; "
            + "attic 0 0 0 = BAD; attic 0 0 13 = BAD");
        b.about("Promise 2", "FULL.");
        b.refusedIn(Towns.FULL, "attic 0 0 1 = FULL; attic 5 23 12 = FULL");
        b.run("7x attic 0 0 1; attic 0 0 1 = 7; attic 0 0 1 = FULL; count 0 = 8");
    }

    private void told() {
        b.about("Promise 3", "Of an ATTIC: what 0 KIND, 1 FACES, 2 WIDTH, 3 COIN, 4 OWES, 5 WIDE, 6 the STARS that it SEES, as a set, 7 RENT.");
        b.run("attic 4 23 2; set 0 3 9999; set 0 4 1; told 0 0 = 4; told 0 1 = 23; told 0 2 = 2; told 0 3 = 9999; "
            + "told 0 4 = 1; told 0 5 = 8; told 0 6 = 7; told 0 7 = 21");
        b.run("7x attic 0 1 1; attic 0 12 10; told 7 0 = 0; told 7 1 = 12; told 7 2 = 10; told 7 5 = 10; told 7 6 = 240; "
            + "told 7 7 = 20; told 0 6 = 0; told 0 7 = 0");
        b.refused("told 0 0 = 0; told 6 7 = 0; told 3 5 = 5");
        b.about("Promise 3", "BAD.");
        b.refused("told -1 0 = BAD; told 7 0 = BAD; told 0 -1 = BAD; told 0 8 = BAD; told 6 8 = BAD");
        b.refusedIn(Towns.FULL, "told 8 0 = BAD; told 7 8 = BAD");
        b.refusedIn("", "told 0 0 = BAD; told 0 7 = BAD");
        b.run("keep; attic 0 0 1; told 0 0 = 0; back; told 0 0 = BAD");
    }

    private void as() {
        b.about("Promise 4", "An ATTIC as one of a KIND: COIN.");
        b.run("attic 3 0 1; as 0 3 = 0; set 0 3 9999; as 0 3 = 9999; as 0 1 = 9999; as 0 0 = 9999; 6x attic 0 0 1; "
            + "attic 5 0 1; set 7 3 1; as 7 5 = 1");
        b.refused("as 0 0 = " + new Played().rows(Towns.BUSY + "told 0 3"));
        b.about("Promise 4", "BAD: attic, kind;");
        b.refused("as -1 0 = BAD; as 7 0 = BAD; as 0 -1 = BAD; as 0 6 = BAD; as 7 6 = BAD");
        b.refusedIn("", "as 0 0 = BAD; as 0 5 = BAD");
        b.about("Promise 4", "KIND: it is not of that KIND, nor of one under it.");
        b.refused("as 0 1 = KIND; as 0 2 = KIND; as 0 3 = KIND; as 0 4 = KIND; as 0 5 = KIND; as 1 3 = KIND; as 1 2 = KIND; "
            + "as 2 4 = KIND; as 2 1 = KIND; as 3 2 = KIND; as 3 4 = KIND; as 3 5 = KIND; as 4 1 = KIND; as 4 3 = KIND; "
            + "as 4 5 = KIND; as 5 1 = KIND; as 5 4 = KIND");
    }

    private void turns() {
        b.about("Promise 5", "An ATTIC is of another KIND from now on: what it was.");
        b.run("attic 0 22 4; set 0 3 7; set 0 4 8; turns 0 5 = 0; turns 0 4 = 5; turns 0 3 = 4; turns 0 2 = 3; turns 0 1 = 2; "
            + "turns 0 0 = 1; turns 0 0 = 0; turns 0 4 = 0; told 0 0 = 4; told 0 1 = 22; told 0 2 = 4; told 0 3 = 7; "
            + "told 0 4 = 8; told 0 5 = 12; as 0 2 = 7");
        b.about("Promise 5", "BAD.");
        b.refused("turns -1 0 = BAD; turns 7 0 = BAD; turns 0 -1 = BAD; turns 0 6 = BAD");
        b.refusedIn(Towns.FULL, "turns 8 0 = BAD");
        b.refusedIn("", "turns 0 0 = BAD");
    }

    private void set() {
        b.about("Promise 6", "FACES (what 1), WIDTH (2), COIN (3), OWES (4) of an ATTIC becomes v: what it was.");
        b.run("attic 0 5 6; attic 0 7 8; set 1 1 0 = 7; set 1 1 23 = 0; set 1 2 1 = 8; set 1 2 12 = 1; set 1 3 0 = 0; "
            + "set 1 3 9999 = 0; set 1 4 0 = 0; set 1 4 9999 = 0; told 1 1 = 23; told 1 2 = 12; told 1 3 = 9999; "
            + "told 1 4 = 9999; told 0 1 = 5; told 0 2 = 6; told 0 3 = 0; told 0 4 = 0");
        b.about("Promise 6", "BAD.");
        b.refused("set -1 1 1 = BAD; set 7 1 1 = BAD; set 0 0 1 = BAD; set 0 5 1 = BAD; set 0 -1 1 = BAD; set 6 1 -1 = BAD; "
            + "set 6 1 24 = BAD; set 6 2 0 = BAD; set 6 2 13 = BAD; set 6 3 -1 = BAD; set 6 3 10000 = BAD; set 6 4 -1 = BAD; "
            + "set 6 4 10000 = BAD");
        b.refusedIn("", "set 0 1 1 = BAD; set 0 3 1 = BAD");
    }

    private void star() {
        b.about("Promise 7", "HOME (what 0), PRICE (1) of a STAR becomes v: what it was.");
        b.run("star 0 0 23 = 0; star 0 0 0 = 23; star 7 0 0 = 21; star 7 0 23 = 0; star 0 1 99 = 5; star 0 1 0 = 99; "
            + "star 7 1 0 = 5; star 7 1 99 = 0; starOf 0 0 = 0; starOf 0 1 = 0; starOf 7 0 = 23; starOf 7 1 = 99; "
            + "starOf 1 0 = 3; starOf 6 1 = 5");
        b.about("Promise 7", "BAD.");
        b.refused("star -1 0 0 = BAD; star 8 0 0 = BAD; star 0 -1 0 = BAD; star 0 2 0 = BAD; star 0 0 -1 = BAD; "
            + "star 0 0 24 = BAD; star 0 1 -1 = BAD; star 0 1 100 = BAD; star 8 2 100 = BAD");
    }

    private void starOf() {
        b.about("Promise 8", "Of a STAR: what 0 HOME, 1 PRICE, 2 the BEARING at which it stands, 3 the ATTICS that SEE it, as a set.");
        b.run("starOf 7 3 = 0; 7x attic 0 21 1; starOf 7 3 = 127; attic 0 20 1; starOf 7 3 = 127; set 7 2 2; starOf 7 3 = 255; "
            + "set 0 1 0; starOf 7 3 = 254; starOf 0 3 = 1; star 7 1 98; starOf 7 1 = 98; hours 3; starOf 7 0 = 21; "
            + "starOf 7 2 = 0; starOf 7 3 = 1");
        b.about("Promise 8", "BAD.");
        b.refused("starOf -1 0 = BAD; starOf 8 0 = BAD; starOf 0 -1 = BAD; starOf 0 4 = BAD; starOf 7 4 = BAD");
    }

    private void chimney() {
        b.about("Promise 9", "A CHIMNEY stands at a BEARING (v 1) or does not (0): 1 if one did, else 0.");
        for (int bearing : new int[] {0, 1, 22, 23}) {
            b.run("chimney " + bearing + " 0 = 0; chimney " + bearing + " 1 = 0; chimney " + bearing + " 1 = 1; "
                + "smokes " + bearing + " = 1; town 3 = 1; "
                + "chimney " + bearing + " 0 = 1; chimney " + bearing + " 0 = 0; town 3 = 0");
        }
        b.about("Promise 9", "BAD.");
        b.refused("chimney -1 1 = BAD; chimney 24 1 = BAD; chimney 32 1 = BAD; chimney 0 -1 = BAD; chimney 0 2 = BAD; "
            + "chimney 9 2 = BAD");
    }

    private void smokes() {
        b.about("Promise 10", "1 if a CHIMNEY stands at a BEARING, else 0.");
        b.run("chimney 0 1; smokes 0 = 1; smokes 1 = 0; smokes 23 = 0; chimney 23 1; smokes 23 = 1; smokes 22 = 0; "
            + "chimney 0 0; smokes 0 = 0; smokes 23 = 1");
        b.refused("smokes 9 = " + new Played().rows(Towns.BUSY + "smokes 9") + "; smokes 20 = 1");
        b.about("Promise 10", "BAD.");
        b.refused("smokes -1 = BAD; smokes 24 = BAD; smokes 32 = BAD; smokes 55 = BAD");
    }

    private void rule() {
        b.about("Promise 11", "CLOUDS (what 0), SMOKE (1), WAGE (2) becomes v: what it was.");
        b.run("rule 0 100 = 10; rule 1 99 = 0; rule 2 999 = 50; rule 0 0 = 100; rule 1 0 = 99; rule 2 0 = 999; rule 0 1 = 0; "
            + "rule 1 100 = 0; rule 2 998 = 0; rule 0 1 = 1; rule 1 1 = 100; rule 2 1 = 998");
        b.about("Promise 11", "BAD.");
        b.refused("rule -1 0 = BAD; rule 3 0 = BAD; rule 0 -1 = BAD; rule 0 101 = BAD; rule 1 -1 = BAD; rule 1 101 = BAD; "
            + "rule 2 -1 = BAD; rule 2 1000 = BAD; rule 0 999 = BAD; rule 1 999 = BAD");
    }

    private void deal() {
        b.about("Promise 12", "ATTICS are drawn, n (1 .. 8) of them, as many as there is room for (no draws for others): how many came.");
        b.run("deal 1 = 1; count 0 = 1; count 7 = " + Lot.z(1, 3) + "; deal 8 = 7; count 0 = 8; "
            + "count 7 = " + Lot.z(1, 24) + "; deal 8 = 0; count 7 = "
            + Lot.z(1, 24) + "; deal 1 = 0; count 0 = 8; count 7 = " + Lot.z(1, 24));
        b.run("deal 8 = 8; count 7 = " + Lot.z(1, 24) + "; told 7 0 = " + Lot.draw(1, 21) % 6 + "; told 7 1 = " + Lot.draw(1, 22) % 24 + "; told 7 2 = "
            + (Lot.draw(1, 23) % 12 + 1));
        b.run("7x attic 0 0 1; deal 2 = 1; count 7 = " + Lot.z(1, 3) + "; told 7 0 = " + Lot.draw(1, 0) % 6);
        b.run("7x attic 0 0 1; deal 1 = 1; count 0 = 8");
        b.refusedIn(Towns.FULL, "deal 1 = 0; deal 8 = 0");
        b.about("Promise 12", "BAD.");
        b.refused("deal 0 = BAD; deal 9 = BAD; deal -1 = BAD");
        b.refusedIn(Towns.FULL, "deal 0 = BAD; deal 9 = BAD");
        b.refusedIn("", "deal 0 = BAD; deal 9 = BAD");
    }

    private void seed() {
        b.about("Promise 13", "z becomes v: what it was.");
        b.run("seed 0 = 1; seed -1 = 0; seed MAX = -1; seed MIN = MAX; seed BAD = MIN; seed 1 = BAD; count 7 = 1; deal 1; "
            + "seed 1 = " + Lot.z(1, 3)
            + "; deal 1; told 1 0 = " + Lot.draw(1, 0) % 6 + "; told 1 1 = " + Lot.draw(1, 1) % 24);
    }
}
