/** Towns that boundary cases begin in, as rows of calls, and all that can be asked of one. */
final class Towns {
    /** Skies that are always clear, and no wages: rents alone move coins. */
    static final String CLEAR = "rule 0 0; rule 2 0; ";
    /** THE HOUR is 9999. */
    static final String LAST_HOUR = "rule 0 100; 99x hours 100; hours 99; ";
    /** THE HOUR is 9998. */
    static final String LAST_BUT_ONE = "rule 0 100; 99x hours 100; hours 98; ";

    private static final String BUSY_KEPT = "seed 77; attic 0 22 4; attic 1 3 5; attic 2 6 3; attic 3 12 8; attic 4 18 12; "
        + "attic 5 0 6; set 0 3 300; set 1 3 40; set 2 4 25; set 5 3 9; rule 0 30; rule 1 40; rule 2 60; star 3 0 1; "
        + "star 4 1 77; chimney 9 1; chimney 14 1; text 'want p+n'; text 'fee t-o'; text 'fine c+o'; hours 9; keep; ";
    /** Seven attics of all kinds, an image of another hour, sheets and slots of each sort, a tape; no numbers wait. */
    static final String BUSY_UNTOLD = BUSY_KEPT + "attic 0 1 2; hours 4; text 'fee o'; chimney 20 1; rule 2 61; star 0 1 8; "
        + "sheet 0 0 3; mark 0 1 -7; sheet 1 1 4; mark 1 0 99999; mark 1 3 NONE; sheet 2 0 0; lay 1 1 4; lay 2 2 1; "
        + "lay 3 3 -12345; lay 4 2 2; write 'fee t*7+o'; ";
    /** The same, with two of THE HOURS TOLD waiting. */
    static final String BUSY = BUSY_UNTOLD + told(BUSY_KEPT, 2);

    private static final String FULL_KEPT = "seed 5; deal 8; set 0 3 9999; set 1 4 9999; 4x text 'want p+h'; 4x text 'fee t+o'; "
        + "5x text 'fine c-o'; keep; ";
    private static final String FULL_UNTOLD = FULL_KEPT + "text 'fine 7'; sheet 0 1 24; mark 0 23 5; ";
    private static final String MOST_BYTES = "write 'fee t+o-" + "1-".repeat(43) + "77'; ";
    /** Eight attics, 14 texts, 96 bytes, 60 numbers, 24 places. */
    static final String FULL = FULL_UNTOLD + MOST_BYTES + told(FULL_KEPT, 30);
    static final String FULL_WITHOUT_TAPE = FULL_UNTOLD + told(FULL_KEPT, 30);
    static final String FULL_WITHOUT_NUMBERS = FULL_UNTOLD + MOST_BYTES;

    private Towns() {
    }

    /** THE HOURS TOLD of a town whose image is as it is. */
    static String told(String kept, int hours) {
        Played object = new Played();
        object.rows(kept);
        StringBuilder rows = new StringBuilder();
        for (int i = 0; i < hours; i++) {
            object.rows("hours 1");
            rows.append("tell ").append(object.call("town", 0)).append("; tell ").append(object.call("town", 1)).append("; ");
        }
        return rows.toString();
    }

    /** All that can be known of an object; it is used up by that. */
    static String look(Played object) {
        StringBuilder all = new StringBuilder();
        lookAtTown(object, all);
        lookAtSlots(object, all);
        lookAtSheets(object, all);
        ask(object, all, "check", Math.max(1, object.call("count", 5) / 2));
        ask(object, all, "back");
        lookAtTown(object, all);
        ask(object, all, "text");
        ask(object, all, "fee");
        return all.toString();
    }

    private static int ask(Played object, StringBuilder all, String name, int... given) {
        int answer = object.call(name, given);
        all.append(name).append(' ').append(answer).append(' ');
        return answer;
    }

    /** The rules are told only by a call that changes them: they come last. */
    private static void lookAtTown(Played object, StringBuilder all) {
        for (int what = 0; what < 8; what++) ask(object, all, "count", what);
        for (int what = 0; what < 7; what++) ask(object, all, "town", what);
        for (int i = 0; i < object.call("count", 0); i++) {
            for (int what = 0; what < 5; what++) ask(object, all, "told", i, what);
        }
        for (int star = 0; star < 8; star++) {
            ask(object, all, "starOf", star, 0);
            ask(object, all, "starOf", star, 1);
        }
        for (int bearing = 0; bearing < 24; bearing++) ask(object, all, "smokes", bearing);
        for (int text = 0; text < object.call("count", 4); text++) {
            ask(object, all, "textTold", text, 0);
            ask(object, all, "textTold", text, 1);
        }
        for (int key = 0; key < 3; key++) ask(object, all, "why", key);
        ask(object, all, "fee");
        ask(object, all, "fine", 0);
        ask(object, all, "behind", 9, 0);
        for (int what = 0; what < 3; what++) ask(object, all, "rule", what, 0);
    }

    private static void lookAtSlots(Played object, StringBuilder all) {
        for (int slot = 0; slot < 5; slot++) {
            ask(object, all, "ask", slot, 0);
            ask(object, all, "ask", slot, 4);
            ask(object, all, "rest", slot, 1000003);
            lookAtPlaces(object, all, slot);
        }
    }

    private static void lookAtPlaces(Played object, StringBuilder all, int slot) {
        for (int place = 0; place < 25; place++) {
            int answer = ask(object, all, "item", slot, place);
            if (answer == AtticStars.NOTHING || answer == AtticStars.INDEX || answer == AtticStars.KIND && place == 0) break;
        }
    }

    private static void lookAtSheets(Played object, StringBuilder all) {
        for (int sheet = 0; sheet < 4; sheet++) {
            ask(object, all, "copy", sheet, 0, 0, 0, 0);
            if (ask(object, all, "lay", 0, 2, sheet) >= 0) lookAtPlaces(object, all, 0);
        }
    }
}
