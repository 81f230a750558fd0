/**
 * A town whose attics are let by the stars that can be seen from the bed, hour by hour.
 * The document ../shared/DOC.md says what each call promises, and in which words.
 */
public final class AtticStars {
    public static final int BAD = -1000000001, NO = -1000000002, FULL = -1000000003, NONE = -1000000005, NOTHING = -1000000011, KIND = -1000000012, INDEX = -1000000013, SIZE = -1000000014;

    private static final int STARS = 8, BEARINGS = 24, ATTICS = 8, WIDEST = 12;
    private static final int MOST_COIN = 9999, MOST_PRICE = 99, MOST_WAGE = 999, LAST_HOUR = 9999;
    private static final int MOST_HOURS = 100, MOST_SEARCHED = 200, MOST_WEIGHED = 60, MOST_CHECKED = 30;
    private static final int TEXTS = 14, TAPE = 96, SHEETS = 4, PLACES = 24, SLOTS = 5, WAITING = 60;
    private static final int MOST_FLOAT = 99999;

    private static final int PLAIN_ATTIC = 0, GAP = 1, GABLE = 2, SHARED = 3, DORMER = 4, CURTAIN = 5, KINDS = 6;
    private static final int[] KIND_ABOVE = {-1, PLAIN_ATTIC, PLAIN_ATTIC, GAP, GABLE, PLAIN_ATTIC};
    private static final int ODD_BEARINGS = 0xAAAAAA;

    private static final int WANT = 0, FEE = 1, FINE = 2, KEYS = 3;
    private static final int TO_FACE = 0, TO_BUILD = 1, TO_BECOME = 2;
    private static final int MISSING = -1, SHORTS = 0, FLOATS = 1;
    private static final int HOLDS_NOTHING = 0, HOLDS_ATTIC = 1, HOLDS_SHEET = 2, HOLDS_NUMBER = 3;

    private final Town now = new Town();
    private final Town thought = new Town();
    private final Town image = new Town();
    private boolean imageKept;
    private final Tape tape = new Tape();
    private final Sheet[] sheets = new Sheet[SHEETS];
    private final Slot[] slots = new Slot[SLOTS];
    private final int[] waiting = new int[WAITING];
    private int waits;
    private final int[] differences = new int[ATTICS];

    public AtticStars() {
        for (int i = 0; i < SHEETS; i++) {
            sheets[i] = new Sheet();
        }
        for (int i = 0; i < SLOTS; i++) {
            slots[i] = new Slot();
        }
    }

    // ---- attics

    public int attic(int kind, int faces, int width) {
        if (!within(kind, 0, KINDS - 1) || !isBearing(faces) || !within(width, 1, WIDEST)) {
            return BAD;
        }
        return now.addAttic(kind, faces, width);
    }

    public int told(int attic, int what) {
        if (!isAttic(attic)) {
            return BAD;
        }
        Attic it = now.attics[attic];
        switch (what) {
            case 0: return it.kind;
            case 1: return it.faces;
            case 2: return it.width;
            case 3: return it.coin;
            case 4: return it.owes;
            case 5: return now.wideOf(it);
            case 6: return now.seenBy(it);
            case 7: return now.rentOf(it);
            default: return BAD;
        }
    }

    public int as(int attic, int kind) {
        if (!isAttic(attic) || !within(kind, 0, KINDS - 1)) {
            return BAD;
        }
        Attic it = now.attics[attic];
        return it.isOf(kind) ? it.coin : KIND;
    }

    public int turns(int attic, int kind) {
        if (!isAttic(attic) || !within(kind, 0, KINDS - 1)) {
            return BAD;
        }
        Attic it = now.attics[attic];
        int before = it.kind;
        it.kind = kind;
        return before;
    }

    public int set(int attic, int what, int v) {
        if (!isAttic(attic)) {
            return BAD;
        }
        Attic it = now.attics[attic];
        int before = BAD;
        if (what == 1 && isBearing(v)) {
            before = it.faces;
            it.faces = v;
        } else if (what == 2 && within(v, 1, WIDEST)) {
            before = it.width;
            it.width = v;
        } else if (what == 3 && within(v, 0, MOST_COIN)) {
            before = it.coin;
            it.coin = v;
        } else if (what == 4 && within(v, 0, MOST_COIN)) {
            before = it.owes;
            it.owes = v;
        }
        return before;
    }

    public int star(int star, int what, int v) {
        if (!isStar(star)) {
            return BAD;
        }
        int before = BAD;
        if (what == 0 && isBearing(v)) {
            before = now.home[star];
            now.home[star] = v;
        } else if (what == 1 && within(v, 0, MOST_PRICE)) {
            before = now.price[star];
            now.price[star] = v;
        }
        return before;
    }

    public int starOf(int star, int what) {
        if (!isStar(star)) {
            return BAD;
        }
        switch (what) {
            case 0: return now.home[star];
            case 1: return now.price[star];
            case 2: return now.bearingOf(star);
            case 3: return now.watchersOf(star);
            default: return BAD;
        }
    }

    public int chimney(int bearing, int v) {
        if (!isBearing(bearing) || !within(v, 0, 1)) {
            return BAD;
        }
        int before = now.chimneys >> bearing & 1;
        if (before != v) {
            now.chimneys ^= 1 << bearing;
        }
        return before;
    }

    public int smokes(int bearing) {
        return isBearing(bearing) ? now.chimneys >> bearing & 1 : BAD;
    }

    public int rule(int what, int v) {
        int before = BAD;
        if (what == 0 && within(v, 0, 100)) {
            before = now.clouds;
            now.clouds = v;
        } else if (what == 1 && within(v, 0, 100)) {
            before = now.smoke;
            now.smoke = v;
        } else if (what == 2 && within(v, 0, MOST_WAGE)) {
            before = now.wage;
            now.wage = v;
        }
        return before;
    }

    public int deal(int n) {
        if (!within(n, 1, ATTICS)) {
            return BAD;
        }
        int come = Math.min(n, ATTICS - now.atticCount);
        for (int i = 0; i < come; i++) {
            now.drawAttic();
        }
        return come;
    }

    public int seed(int v) {
        int before = now.z;
        now.z = v;
        return before;
    }

    // ---- hours

    public int hours(int n) {
        if (!within(n, 1, MOST_HOURS)) {
            return BAD;
        }
        int before = now.taken;
        for (int i = 0; i < n && now.hour < LAST_HOUR; i++) {
            now.passHour();
        }
        return now.taken - before;
    }

    public int town(int what) {
        switch (what) {
            case 0: return now.taken;
            case 1: return now.owedByAll();
            case 2: return now.prayed;
            case 3: return Integer.bitCount(now.chimneys);
            case 4: return now.coinOfAll();
            case 5: return now.dark();
            case 6: return now.rentOfAll();
            default: return BAD;
        }
    }

    public int cover(int stars) {
        if (!within(stars, 0, (1 << STARS) - 1)) {
            return BAD;
        }
        return now.fewestFor(stars);
    }

    // ---- what will be

    public int behind(int n, int what) {
        if (!within(n, 0, MOST_HOURS) || !within(what, 0, 2 + now.atticCount)) {
            return BAD;
        }
        thought.takeAfter(now);
        for (int i = 0; i < n; i++) {
            thought.passHour();
        }
        switch (what) {
            case 0: return thought.taken;
            case 1: return thought.prayed;
            case 2: return Integer.bitCount(thought.chimneys);
            default: return thought.attics[what - 3].coin;
        }
    }

    public int debt(int attic, int v) {
        if (!isAttic(attic) || !within(v, 0, MOST_COIN)) {
            return BAD;
        }
        thought.takeAfter(now);
        for (int n = 0; n <= MOST_SEARCHED; n++) {
            if (thought.attics[attic].owes >= v) {
                return n;
            }
            thought.passHour();
        }
        return NONE;
    }

    public int rises(int attic, int star) {
        if (!isAttic(attic) || !isStar(star)) {
            return BAD;
        }
        thought.takeAfter(now);
        for (int n = 0; n <= MOST_SEARCHED; n++) {
            if ((thought.seenBy(thought.attics[attic]) >> star & 1) == 1) {
                return n;
            }
            thought.passHour();
        }
        return NONE;
    }

    public int turned(int attic, int n, int what) {
        if (!isAttic(attic) || !within(n, 1, MOST_WEIGHED) || !within(what, 0, 1)) {
            return BAD;
        }
        return bestOf(TO_FACE, attic, n, what);
    }

    public int stands(int n, int what) {
        if (!within(n, 1, MOST_WEIGHED) || !within(what, 0, 1)) {
            return BAD;
        }
        return bestOf(TO_BUILD, 0, n, what);
    }

    public int becomes(int attic, int n, int what) {
        if (!isAttic(attic) || !within(n, 1, MOST_WEIGHED) || !within(what, 0, 1)) {
            return BAD;
        }
        return bestOf(TO_BECOME, attic, n, what);
    }

    public int like(int sheet, int what) {
        if (!isSheet(sheet) || !within(what, 0, 1)) {
            return BAD;
        }
        Sheet row = sheets[sheet];
        if (row.sort == MISSING) {
            return NOTHING;
        }
        if (now.atticCount == 0) {
            return NONE;
        }
        measureDifferences(row);
        int nearest = 0;
        for (int i = 1; i < now.atticCount; i++) {
            if (differences[i] < differences[nearest]) {
                nearest = i;
            }
        }
        return what == 0 ? nearest : differences[nearest];
    }

    public int fee() {
        return now.feeGives();
    }

    public int fine(int attic) {
        return isAttic(attic) ? now.fineGives(now.attics[attic]) : BAD;
    }

    // ---- texts

    public int feed(int a, int b, int c) {
        if (tape.length + 12 > TAPE) {
            return FULL;
        }
        tape.append(a);
        tape.append(b);
        tape.append(c);
        return tape.length;
    }

    public int trim(int n) {
        if (!within(n, 0, tape.length)) {
            return BAD;
        }
        tape.length = n;
        return n;
    }

    public int text() {
        Text read = tape.readText();
        tape.length = 0;
        return read == null ? -100 - tape.begin : now.addText(read);
    }

    public int textTold(int text, int what) {
        if (!within(text, 0, now.textCount - 1) || !within(what, 0, 1)) {
            return BAD;
        }
        Text it = now.texts[text];
        if (it == null) {
            return BAD;
        }
        return what == 0 ? it.key : it.leaves;
    }

    public int why(int key) {
        if (!within(key, 0, KEYS - 1)) {
            return BAD;
        }
        return now.counting[key] < 0 ? NONE : now.counting[key];
    }

    // ---- sheets, slots

    public int sheet(int sheet, int sort, int n) {
        if (!isSheet(sheet) || !within(sort, MISSING, FLOATS)) {
            return BAD;
        }
        if (sort == MISSING) {
            sheets[sheet].renew(MISSING, 0);
            return 0;
        }
        if (n > PLACES) {
            return BAD;
        }
        if (n < 0) {
            return SIZE;
        }
        sheets[sheet].renew(sort, n);
        return n;
    }

    public int mark(int sheet, int place, int v) {
        if (!isSheet(sheet)) {
            return BAD;
        }
        Sheet row = sheets[sheet];
        if (row.sort == MISSING) {
            return NOTHING;
        }
        if (!row.hasPlace(place)) {
            return INDEX;
        }
        if (row.sort == SHORTS && v == NONE) {
            return KIND;
        }
        if (row.sort == FLOATS && v != NONE && !within(v, -MOST_FLOAT, MOST_FLOAT)) {
            return BAD;
        }
        row.places[place] = row.sort == SHORTS ? (short) v : v;
        return 1;
    }

    public int pour(int sheet) {
        if (!isSheet(sheet)) {
            return BAD;
        }
        Sheet row = sheets[sheet];
        if (row.sort == MISSING) {
            return NOTHING;
        }
        int changed = 0;
        for (int k = 0; k < STARS; k++) {
            if (row.hasNumber(k)) {
                int price = held(row.places[k], MOST_PRICE);
                changed += price == now.price[k] ? 0 : 1;
                now.price[k] = price;
            }
        }
        return changed;
    }

    public int reads(int sheet) {
        if (!isSheet(sheet)) {
            return BAD;
        }
        Sheet row = sheets[sheet];
        if (row.sort == MISSING) {
            return NOTHING;
        }
        for (int k = 0; k < row.size; k++) {
            if (row.hasNumber(k) && !(isAttic(k) && row.places[k] == now.attics[k].faces)) {
                return k;
            }
        }
        return NONE;
    }

    public int copy(int from, int place, int to, int at, int many) {
        if (!isSheet(from) || !isSheet(to)) {
            return BAD;
        }
        Sheet source = sheets[from];
        Sheet target = sheets[to];
        if (source.sort == MISSING || target.sort == MISSING) {
            return NOTHING;
        }
        if (source.sort != target.sort) {
            return KIND;
        }
        if (!source.hasPlaces(place, many) || !target.hasPlaces(at, many)) {
            return INDEX;
        }
        System.arraycopy(source.places, place, target.places, at, many);
        return many;
    }

    public int lay(int slot, int thing, int k) {
        if (!isSlot(slot) || !within(thing, HOLDS_NOTHING, HOLDS_NUMBER)
                || thing == HOLDS_ATTIC && !isAttic(k) || thing == HOLDS_SHEET && !isSheet(k)) {
            return BAD;
        }
        if (thing == HOLDS_SHEET && sheets[k].sort == MISSING) {
            return NOTHING;
        }
        Slot it = slots[slot];
        int before = it.holds;
        it.holds = thing;
        if (thing == HOLDS_ATTIC) {
            it.attic.takeAfter(now.attics[k]);
        } else if (thing == HOLDS_SHEET) {
            it.sheet.takeAfter(sheets[k]);
        } else if (thing == HOLDS_NUMBER) {
            it.number = k;
        }
        return before;
    }

    public int ask(int slot, int kind) {
        if (!isSlot(slot) || !within(kind, 0, KINDS - 1)) {
            return BAD;
        }
        Slot it = slots[slot];
        if (it.holds == HOLDS_NOTHING) {
            return NOTHING;
        }
        return it.holds == HOLDS_ATTIC && it.attic.isOf(kind) ? now.wideOf(it.attic) : KIND;
    }

    public int item(int slot, int place) {
        if (!isSlot(slot)) {
            return BAD;
        }
        Slot it = slots[slot];
        if (it.holds == HOLDS_NOTHING) {
            return NOTHING;
        }
        if (it.holds != HOLDS_SHEET) {
            return KIND;
        }
        if (!it.sheet.hasPlace(place)) {
            return INDEX;
        }
        return it.sheet.hasNumber(place) ? it.sheet.places[place] : KIND;
    }

    public int rest(int slot, int n) {
        if (!isSlot(slot)) {
            return BAD;
        }
        Slot it = slots[slot];
        if (it.holds == HOLDS_NOTHING) {
            return NOTHING;
        }
        if (it.holds != HOLDS_NUMBER) {
            return KIND;
        }
        return n == 0 ? NO : it.number % n;
    }

    // ---- rows, images

    public int tell(int v) {
        if (waits >= WAITING) {
            return FULL;
        }
        waiting[waits] = v;
        waits++;
        return waits;
    }

    public int check(int n) {
        int heard = waits;
        waits = 0;
        if (!within(n, 1, MOST_CHECKED)) {
            return BAD;
        }
        if (!imageKept) {
            return NO;
        }
        thought.takeAfter(image);
        int due = 2 * Math.min(n, LAST_HOUR - image.hour);
        for (int i = 0; i < due; i++) {
            if (i % 2 == 0) {
                thought.passHour();
            }
            int told = i % 2 == 0 ? thought.taken : thought.owedByAll();
            if (i >= heard || waiting[i] != told) {
                return 1 + i;
            }
        }
        return heard > due ? 1 + due : 0;
    }

    public int keep() {
        image.takeAfter(now);
        imageKept = true;
        return now.atticCount;
    }

    public int back() {
        if (!imageKept) {
            return NO;
        }
        now.takeAfter(image);
        return now.atticCount;
    }

    public int count(int what) {
        switch (what) {
            case 0: return now.atticCount;
            case 1: return now.hour;
            case 2: return now.taken;
            case 3: return now.prayed;
            case 4: return now.textCount;
            case 5: return waits;
            case 6: return tape.length;
            case 7: return now.z;
            default: return BAD;
        }
    }

    // ---- helpers of the calls

    private static boolean within(int v, int least, int most) {
        return v >= least && v <= most;
    }

    private static int held(int v, int most) {
        return Math.max(0, Math.min(most, v));
    }

    private static boolean isBearing(int v) {
        return within(v, 0, BEARINGS - 1);
    }

    private static boolean isStar(int v) {
        return within(v, 0, STARS - 1);
    }

    private static boolean isSheet(int v) {
        return within(v, 0, SHEETS - 1);
    }

    private static boolean isSlot(int v) {
        return within(v, 0, SLOTS - 1);
    }

    private boolean isAttic(int v) {
        return within(v, 0, now.atticCount - 1);
    }

    /** The choice with which most is taken behind n hours (what 0) or that most (1); NONE where there is no choice. */
    private int bestOf(int choice, int attic, int n, int what) {
        int best = NONE;
        int most = NONE;
        int choices = choice == TO_BECOME ? KINDS : BEARINGS;
        for (int v = 0; v < choices; v++) {
            thought.takeAfter(now);
            if (thought.choose(choice, attic, v)) {
                for (int i = 0; i < n; i++) {
                    thought.passHour();
                }
                if (thought.taken > most) {
                    most = thought.taken;
                    best = v;
                }
            }
        }
        return what == 0 ? best : most;
    }

    private void measureDifferences(Sheet row) {
        for (int i = 0; i < ATTICS; i++) {
            differences[i] = 0;
        }
        thought.takeAfter(now);
        for (int k = 0; k < row.size; k++) {
            if (row.hasNumber(k)) {
                for (int i = 0; i < thought.atticCount; i++) {
                    differences[i] += Math.abs(thought.rentOf(thought.attics[i]) - row.places[k]);
                }
            }
            thought.passHour();
        }
    }

    /** All that an image keeps, and how an hour passes in it. */
    private static final class Town {
        final int[] home = new int[STARS];
        final int[] price = new int[STARS];
        final Attic[] attics = new Attic[ATTICS];
        int atticCount;
        int chimneys;
        int clouds = 10;
        int smoke;
        int wage = 50;
        int taken;
        int prayed;
        int hour;
        int z = 1;
        final Text[] texts = new Text[TEXTS];
        int textCount;
        final int[] counting = new int[KEYS];
        private final int[] names = new int[Text.MOST_NAMES];
        private final int[] pile = new int[TAPE];
        private final int[] views = new int[ATTICS];

        Town() {
            for (int k = 0; k < STARS; k++) {
                home[k] = 3 * k;
                price[k] = 5;
            }
            for (int i = 0; i < ATTICS; i++) {
                attics[i] = new Attic();
            }
            for (int key = 0; key < KEYS; key++) {
                counting[key] = -1;
            }
        }

        void takeAfter(Town other) {
            System.arraycopy(other.home, 0, home, 0, STARS);
            System.arraycopy(other.price, 0, price, 0, STARS);
            for (int i = 0; i < other.atticCount; i++) {
                attics[i].takeAfter(other.attics[i]);
            }
            atticCount = other.atticCount;
            chimneys = other.chimneys;
            clouds = other.clouds;
            smoke = other.smoke;
            wage = other.wage;
            taken = other.taken;
            prayed = other.prayed;
            hour = other.hour;
            z = other.z;
            for (int i = 0; i < TEXTS; i++) {
                texts[i] = other.texts[i];
            }
            textCount = other.textCount;
            System.arraycopy(other.counting, 0, counting, 0, KEYS);
        }

        int addAttic(int kind, int faces, int width) {
            if (atticCount >= ATTICS) {
                return FULL;
            }
            attics[atticCount].renew(kind, faces, width);
            atticCount++;
            return atticCount - 1;
        }

        void drawAttic() {
            int kind = draw() % KINDS;
            int faces = draw() % BEARINGS;
            int width = draw() % WIDEST + 1;
            addAttic(kind, faces, width);
        }

        int addText(Text added) {
            if (textCount >= TEXTS) {
                return FULL;
            }
            texts[textCount] = added;
            counting[added.key] = textCount;
            textCount++;
            return textCount - 1;
        }

        /** Never negative: 24 bits. */
        private int draw() {
            z = z * 1103515245 + 12345;
            return z >>> 8;
        }

        void passHour() {
            int sky = draw();
            int air = draw();
            if (sky % 100 < clouds) {
                prayed++;
            } else {
                for (int i = 0; i < atticCount; i++) {
                    taken += attics[i].pay(rentOf(attics[i]));
                }
            }
            if (air % 100 < smoke) {
                chimneys ^= 1 << draw() % BEARINGS;
            }
            if (hour % 24 == 6) {
                for (int i = 0; i < atticCount; i++) {
                    attics[i].earn(wage);
                }
            }
            hour++;
        }

        /** False where a choice can't be made: a second chimney at a bearing. */
        boolean choose(int choice, int attic, int v) {
            if (choice == TO_BUILD) {
                boolean free = (chimneys >> v & 1) == 0;
                chimneys |= 1 << v;
                return free;
            }
            if (!within(attic, 0, atticCount - 1)) {
                return false;
            }
            if (choice == TO_FACE) {
                attics[attic].faces = v;
            } else {
                attics[attic].kind = v;
            }
            return true;
        }

        int bearingOf(int star) {
            return (home[star] + hour) % BEARINGS;
        }

        int wideOf(Attic attic) {
            switch (attic.kind) {
                case GAP:
                case SHARED: return attic.width / 2 + 1;
                case GABLE: return attic.width + 2;
                case DORMER: return Math.min(BEARINGS, 2 * (attic.width + 2));
                case CURTAIN: return hour % 2 == 0 ? attic.width : 0;
                default: return attic.width;
            }
        }

        private int hidingFrom(Attic attic) {
            switch (attic.kind) {
                case GABLE: return chimneys & ODD_BEARINGS;
                case DORMER: return 0;
                default: return chimneys;
            }
        }

        int seenBy(Attic attic) {
            int wide = wideOf(attic);
            int hiding = hidingFrom(attic);
            int seen = 0;
            for (int k = 0; k < STARS; k++) {
                int bearing = bearingOf(k);
                int fromFaces = (bearing - attic.faces + BEARINGS) % BEARINGS;
                if (fromFaces < wide && (hiding >> bearing & 1) == 0) {
                    seen |= 1 << k;
                }
            }
            return seen;
        }

        int watchersOf(int star) {
            int watchers = 0;
            for (int i = 0; i < atticCount; i++) {
                watchers |= (seenBy(attics[i]) >> star & 1) << i;
            }
            return watchers;
        }

        int dark() {
            int seen = 0;
            for (int i = 0; i < atticCount; i++) {
                seen |= seenBy(attics[i]);
            }
            return (1 << STARS) - 1 & ~seen;
        }

        /** Sets are tried upwards, so that of several the least stays; NONE where not even all attics see the stars. */
        int fewestFor(int stars) {
            for (int i = 0; i < atticCount; i++) {
                views[i] = seenBy(attics[i]);
            }
            int best = NONE;
            int fewest = ATTICS + 1;
            for (int set = 0; set < 1 << atticCount; set++) {
                int many = Integer.bitCount(set);
                if (many < fewest && (stars & ~viewOf(set)) == 0) {
                    fewest = many;
                    best = set;
                }
            }
            return best;
        }

        private int viewOf(int set) {
            int view = 0;
            for (int i = 0; i < atticCount; i++) {
                if ((set >> i & 1) == 1) {
                    view |= views[i];
                }
            }
            return view;
        }

        int rentOf(Attic attic) {
            int seen = seenBy(attic);
            int plain = plainRentOf(attic, seen);
            switch (attic.kind) {
                case GAP: return Math.max(0, plain - 1);
                case SHARED: return Math.max(0, plain - 1) / 2;
                case GABLE: return plain + 3;
                case DORMER: return plain + 3 + Integer.bitCount(seen);
                default: return plain;
            }
        }

        private int plainRentOf(Attic attic, int seen) {
            int prices = 0;
            for (int k = 0; k < STARS; k++) {
                prices += (seen >> k & 1) * price[k];
            }
            Text want = textFor(WANT);
            if (want == null) {
                return prices;
            }
            names[0] = prices;
            names[1] = Integer.bitCount(seen);
            names[2] = hour;
            names[3] = wideOf(attic);
            return held(want.gives(names, pile), MOST_COIN);
        }

        int feeGives() {
            Text law = textFor(FEE);
            if (law == null) {
                return taken;
            }
            names[0] = taken;
            names[1] = owedByAll();
            return law.gives(names, pile);
        }

        int fineGives(Attic attic) {
            Text law = textFor(FINE);
            if (law == null) {
                return attic.owes;
            }
            names[0] = attic.coin;
            names[1] = attic.owes;
            return law.gives(names, pile);
        }

        private Text textFor(int key) {
            int number = counting[key];
            return within(number, 0, TEXTS - 1) ? texts[number] : null;
        }

        int owedByAll() {
            int owed = 0;
            for (int i = 0; i < atticCount; i++) {
                owed += attics[i].owes;
            }
            return owed;
        }

        int coinOfAll() {
            int coin = 0;
            for (int i = 0; i < atticCount; i++) {
                coin += attics[i].coin;
            }
            return coin;
        }

        int rentOfAll() {
            int rent = 0;
            for (int i = 0; i < atticCount; i++) {
                rent += rentOf(attics[i]);
            }
            return rent;
        }
    }

    private static final class Attic {
        int kind;
        int faces;
        int width;
        int coin;
        int owes;

        void renew(int ofKind, int facing, int wide) {
            kind = ofKind;
            faces = facing;
            width = wide;
            coin = 0;
            owes = 0;
        }

        void takeAfter(Attic other) {
            kind = other.kind;
            faces = other.faces;
            width = other.width;
            coin = other.coin;
            owes = other.owes;
        }

        /** Is it of that kind, or of one under it? */
        boolean isOf(int other) {
            int step = kind;
            for (int i = 0; i < KINDS && within(step, 0, KINDS - 1); i++) {
                if (step == other) {
                    return true;
                }
                step = KIND_ABOVE[step];
            }
            return false;
        }

        /** How much of the rent is paid; the rest is owed. */
        int pay(int rent) {
            int paid = Math.min(coin, rent);
            coin -= paid;
            owes = Math.min(MOST_COIN, owes + rent - paid);
            return paid;
        }

        void earn(int wage) {
            coin = Math.min(MOST_COIN, coin + wage);
        }
    }

    /**
     * A law, as steps in the order in which they are worked out on a pile: a number by itself (0 and up),
     * name k as -1 - k, a sign as its byte with a minus, behind what it joins.
     */
    private static final class Text {
        static final int MOST_NAMES = 4;
        final int key;
        final int leaves;
        private final int[] steps;

        Text(int ofKey, int leafCount, int[] source, int many) {
            key = ofKey;
            leaves = leafCount;
            steps = new int[many];
            System.arraycopy(source, 0, steps, 0, many);
        }

        int gives(int[] names, int[] pile) {
            int high = 0;
            for (int i = 0; i < steps.length; i++) {
                int step = steps[i];
                if (step >= -MOST_NAMES) {
                    if (high < pile.length) {
                        pile[high] = step >= 0 ? step : names[-1 - step];
                        high++;
                    }
                } else if (step == -'!') {
                    if (high >= 1) {
                        pile[high - 1] = pile[high - 1] == 0 ? 1 : 0;
                    }
                } else if (high >= 2) {
                    high--;
                    pile[high - 1] = joined(-step, pile[high - 1], pile[high]);
                }
            }
            return pile[0];
        }

        private static int joined(int sign, int a, int b) {
            switch (sign) {
                case '|': return a != 0 || b != 0 ? 1 : 0;
                case '&': return a != 0 && b != 0 ? 1 : 0;
                case '<': return a < b ? 1 : 0;
                case '=': return a == b ? 1 : 0;
                case '>': return a > b ? 1 : 0;
                case '+': return a + b;
                case '-': return a - b;
                case '*': return a * b;
                case '/': return b == 0 ? 0 : a / b;
                default: return 0;
            }
        }
    }

    /** Bytes, and the reading of a text from them; begin is the fault's place where one can't be read. */
    private static final class Tape {
        private static final int END = 0, LETTERS = 1, DIGITS = 2, SIGN = 3, STUCK = 4;
        private static final int OF_TESTS = 2, OF_PIECES = 5;
        private static final int MOST_DIGITS = 4, MOST_OPEN = 8;

        private final int[] bytes = new int[TAPE];
        int length;
        int begin;
        private int end;
        private int sort;
        private int key;
        private int opens;
        private int nots;
        private int leaves;
        private final int[] steps = new int[TAPE];
        private int stepCount;

        void append(int four) {
            for (int shift = 24; shift >= 0 && length < TAPE; shift -= 8) {
                bytes[length] = four >> shift & 255;
                length++;
            }
        }

        /** Null where there is a fault. */
        Text readText() {
            end = 0;
            sort = END;
            opens = 0;
            nots = 0;
            leaves = 0;
            stepCount = 0;
            advance();
            key = keyHere();
            if (key < 0) {
                return null;
            }
            advance();
            if (!readJoined(0) || sort != END) {
                return null;
            }
            return new Text(key, leaves, steps, stepCount);
        }

        /** Goes to the next word or sign; STUCK is a word that lacks the blank ahead of it. */
        private void advance() {
            boolean wasWord = sort == LETTERS || sort == DIGITS;
            begin = end;
            while (begin < length && bytes[begin] == ' ') {
                begin++;
            }
            boolean near = begin == end;
            sort = sortAt(begin);
            end = begin;
            if (sort == SIGN) {
                end++;
            } else if (sort != END) {
                while (end < length && sortAt(end) == sort) {
                    end++;
                }
                if (wasWord && near) {
                    sort = STUCK;
                }
            }
        }

        private int sortAt(int place) {
            if (place >= length) {
                return END;
            }
            int it = bytes[place];
            if (it >= 'a' && it <= 'z') {
                return LETTERS;
            }
            return it >= '0' && it <= '9' ? DIGITS : SIGN;
        }

        private int signHere() {
            return sort == SIGN && begin < length ? bytes[begin] : -1;
        }

        private int keyHere() {
            if (isHere("want")) {
                return WANT;
            }
            if (isHere("fee")) {
                return FEE;
            }
            return isHere("fine") ? FINE : -1;
        }

        private boolean isHere(String word) {
            if (sort != LETTERS || end - begin != word.length()) {
                return false;
            }
            for (int i = 0; i < word.length(); i++) {
                if (bytes[begin + i] != word.charAt(i)) {
                    return false;
                }
            }
            return true;
        }

        /** E is of rank 0; a rank's signs join what is of the next rank. */
        private boolean readJoined(int rank) {
            if (rank >= OF_PIECES) {
                return readPiece();
            }
            if (!readJoined(rank + 1)) {
                return false;
            }
            int most = rank == OF_TESTS ? 1 : TAPE;
            for (int i = 0; i < most && rankOf(signHere()) == rank; i++) {
                int sign = signHere();
                advance();
                if (!readJoined(rank + 1)) {
                    return false;
                }
                addStep(-sign);
            }
            return true;
        }

        private static int rankOf(int sign) {
            switch (sign) {
                case '|': return 0;
                case '&': return 1;
                case '<':
                case '=':
                case '>': return OF_TESTS;
                case '+':
                case '-': return 3;
                case '*':
                case '/': return 4;
                default: return -1;
            }
        }

        private boolean readPiece() {
            if (sort == DIGITS) {
                return end - begin <= MOST_DIGITS && readLeaf(numberHere());
            }
            if (sort == LETTERS) {
                int name = nameHere();
                return name >= 0 && readLeaf(-1 - name);
            }
            int sign = signHere();
            if (sign == '!') {
                return readNot();
            }
            return sign == '(' && readOpen();
        }

        private boolean readLeaf(int step) {
            addStep(step);
            leaves++;
            advance();
            return true;
        }

        private boolean readNot() {
            if (nots >= MOST_OPEN) {
                return false;
            }
            nots++;
            advance();
            if (!readPiece()) {
                return false;
            }
            nots--;
            addStep(-'!');
            return true;
        }

        private boolean readOpen() {
            if (opens >= MOST_OPEN) {
                return false;
            }
            opens++;
            advance();
            if (!readJoined(0) || signHere() != ')') {
                return false;
            }
            opens--;
            advance();
            return true;
        }

        private int numberHere() {
            int number = 0;
            for (int i = begin; i < end && i < length; i++) {
                number = number * 10 + bytes[i] - '0';
            }
            return number;
        }

        private int nameHere() {
            if (end - begin != 1 || begin >= length) {
                return -1;
            }
            String names = key == WANT ? "pnhw" : key == FEE ? "to" : "co";
            return names.indexOf((char) bytes[begin]);
        }

        private void addStep(int step) {
            if (stepCount < TAPE) {
                steps[stepCount] = step;
                stepCount++;
            }
        }
    }

    /** A row of whole numbers; NONE stands where a place is no number. */
    private static final class Sheet {
        final int[] places = new int[PLACES];
        int sort = MISSING;
        int size;

        void renew(int ofSort, int many) {
            sort = ofSort;
            size = many;
            for (int k = 0; k < PLACES; k++) {
                places[k] = 0;
            }
        }

        void takeAfter(Sheet other) {
            sort = other.sort;
            size = other.size;
            System.arraycopy(other.places, 0, places, 0, PLACES);
        }

        boolean hasPlace(int place) {
            return within(place, 0, size - 1);
        }

        boolean hasNumber(int place) {
            return hasPlace(place) && places[place] != NONE;
        }

        /** The size less many can't wrap, where place and many together could. */
        boolean hasPlaces(int place, int many) {
            return place >= 0 && many >= 0 && place <= size - many;
        }
    }

    private static final class Slot {
        int holds;
        final Attic attic = new Attic();
        final Sheet sheet = new Sheet();
        int number;
    }
}
