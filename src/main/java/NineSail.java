import java.util.Arrays;

/** Boats that have one sail among them; what every call answers stands in the document, promise by promise. */
public final class NineSail {
    public static final int BAD = -1000000001, NO = -1000000002, FULL = -1000000003, NONE = -1000000005, NOTHING = -1000000011, KIND = -1000000012, INDEX = -1000000013, SIZE = -1000000014;

    private static final int KINDS = 6;
    private static final int MOST_BOATS = 9;
    private static final int MOST_WEIGHT = 50;
    /** The greatest PLACE, the greatest WANT and the last HOUR are one number. */
    private static final int FAR = 9999;
    private static final int MOST_PULL = 999;
    private static final int LAWS = 3;
    private static final int MOST_TURN_TRIED = 20;
    private static final int MOST_HOURS_HOME = 300;

    private static final int WIND = 0;
    private static final int LAW = 1;
    private static final int TURN = 2;
    private static final int FISH = 3;
    private static final int STORM = 4;
    private static final int[] LEAST_RULE = {0, 0, 1, 0, 0};
    private static final int[] MOST_RULE = {9, 2, 99, 99, 100};
    private static final int[] FIRST_RULE = {5, 0, 3, 4, 0};

    private static final int KEYS = 3;
    private static final int PULL = 0;
    private static final int FEE = 1;
    private static final int FINE = 2;
    private static final int MOST_TEXTS = 14;
    private static final int MOST_BYTES = 96;
    private static final int BYTES_FED = 12;
    private static final int FIRST_FAULT = -100;

    private static final int SHEETS = 4;
    private static final int MOST_PLACES = 24;
    private static final int MISSING = -1;
    private static final int SHORTS = 0;
    private static final int FLOATS = 1;
    private static final int MOST_FLOAT = 99999;

    private static final int SLOTS = 5;
    private static final int HOLDS_NOTHING = 0;
    private static final int HOLDS_BOAT = 1;
    private static final int HOLDS_SHEET = 2;
    private static final int HOLDS_NUMBER = 3;

    private static final int MOST_WAITING = 60;
    private static final int MOST_HOURS_TOLD = 30;

    private final Kind[] kinds = new Kind[KINDS];
    private final Sea sea;
    /** What is only thought happens here, so that nothing of the sea itself changes. */
    private final Sea thought;
    private final Sea image;
    private boolean imageKept;
    private final int[] gains = new int[MOST_BOATS];
    private final Tape tape = new Tape();
    private final Sheet[] sheets = new Sheet[SHEETS];
    private final int[] slotThings = new int[SLOTS];
    private final Boat[] slotBoats = new Boat[SLOTS];
    private final Sheet[] slotSheets = new Sheet[SLOTS];
    private final int[] slotNumbers = new int[SLOTS];
    private final int[] waiting = new int[MOST_WAITING];
    private int waitingCount;

    public NineSail() {
        Kind plain = new Kind(0, null);
        Kind proud = new Proud(1, plain);
        Kind slow = new Slow(2, plain);
        kinds[0] = plain;
        kinds[1] = proud;
        kinds[2] = slow;
        kinds[3] = new Leader(3, proud);
        kinds[4] = new Ninth(4, slow);
        kinds[5] = new Tent(5, plain);
        sea = new Sea(plain);
        thought = new Sea(plain);
        image = new Sea(plain);
        for (int i = 0; i < SHEETS; i++) {
            sheets[i] = new Sheet();
        }
        for (int i = 0; i < SLOTS; i++) {
            slotBoats[i] = new Boat(plain);
            slotSheets[i] = new Sheet();
        }
    }

    // ---- boats

    public int boat(int kind, int weight, int want) {
        if (!isKind(kind) || !isWeight(weight) || !isPlace(want)) {
            return BAD;
        }
        if (sea.many >= MOST_BOATS) {
            return FULL;
        }
        sea.launch(kinds[kind], weight, want);
        return sea.many - 1;
    }

    public int told(int boat, int what) {
        if (!sea.has(boat)) {
            return BAD;
        }
        Boat b = sea.boats[boat];
        switch (what) {
            case 0: return b.kind.number;
            case 1: return b.weight;
            case 2: return b.place;
            case 3: return b.want;
            case 4: return b.caught;
            case 5: return b.tied ? 1 : 0;
            case 6: return b.patches;
            case 7: return sea.pullOf(b);
            case 8: return b.kind.drags(b.weight);
            case 9: return b.kind.rows();
            case 10: return b.kind.worth(b.weight);
            default: return BAD;
        }
    }

    public int as(int boat, int kind) {
        if (!sea.has(boat) || !isKind(kind)) {
            return BAD;
        }
        Boat b = sea.boats[boat];
        return b.kind.isOf(kind) ? b.weight : KIND;
    }

    public int turns(int boat, int kind) {
        if (!sea.has(boat) || !isKind(kind)) {
            return BAD;
        }
        Boat b = sea.boats[boat];
        int was = b.kind.number;
        b.kind = kinds[kind];
        return was;
    }

    public int set(int boat, int what, int v) {
        if (!sea.has(boat) || what < 1 || what > 3) {
            return BAD;
        }
        if (what == 1 ? !isWeight(v) : !isPlace(v)) {
            return BAD;
        }
        Boat b = sea.boats[boat];
        int was;
        if (what == 1) {
            was = b.weight;
            b.weight = v;
        } else if (what == 2) {
            was = b.place;
            b.place = v;
        } else {
            was = b.want;
            b.want = v;
        }
        return was;
    }

    public int ties(int boat, int on) {
        if (!sea.has(boat) || on < 0 || on > 1) {
            return BAD;
        }
        Boat b = sea.boats[boat];
        int was = b.tied ? 1 : 0;
        b.tied = on == 1;
        return was;
    }

    public int hands(int boat) {
        if (!sea.has(boat)) {
            return BAD;
        }
        int had = sea.sail;
        sea.giveSail(boat);
        return had;
    }

    public int rule(int what, int v) {
        if (what < WIND || what > STORM) {
            return BAD;
        }
        if (v < LEAST_RULE[what] || v > MOST_RULE[what]) {
            return BAD;
        }
        int was = sea.rules[what];
        sea.rules[what] = v;
        return was;
    }

    public int deal(int n) {
        if (n < 1 || n > MOST_BOATS) {
            return BAD;
        }
        int came = Math.min(n, MOST_BOATS - sea.many);
        for (int i = 0; i < came; i++) {
            int kind = sea.draw() % KINDS;
            int weight = 1 + sea.draw() % 20;
            int want = sea.draw() % 500;
            sea.launch(kinds[kind], weight, want);
        }
        return came;
    }

    public int seed(int v) {
        int was = sea.z;
        sea.z = v;
        return was;
    }

    // ---- hours

    public int speed() {
        return sea.pace();
    }

    public int hours(int n) {
        if (n < 1 || n > 100) {
            return BAD;
        }
        int before = sea.allCaught();
        sea.letPass(Math.min(n, FAR - sea.hour));
        return sea.allCaught() - before;
    }

    public int fleet(int what) {
        switch (what) {
            case 0: return sea.allCaught();
            case 1: return sea.allPlaces();
            case 2: return sea.wear;
            case 3: return sea.sail;
            case 4: return sea.since;
            case 5: return sea.tiedSet();
            case 6: return sea.homeSet();
            default: return BAD;
        }
    }

    // ---- what will be

    public int behind(int n, int what) {
        if (n < 0 || n > 100 || what < 0) {
            return BAD;
        }
        if (what >= 3 && !sea.has(what - 3)) {
            return BAD;
        }
        thought.become(sea);
        thought.letPass(n);
        switch (what) {
            case 0: return thought.allCaught();
            case 1: return thought.sail;
            case 2: return thought.wear;
            default: return thought.boats[what - 3].place;
        }
    }

    public int home() {
        thought.become(sea);
        for (int h = 0; h <= MOST_HOURS_HOME; h++) {
            if (thought.areAllHome()) {
                return h;
            }
            thought.passHour();
        }
        return NONE;
    }

    public int bestLaw(int n, int what) {
        if (n < 1 || n > 60 || !isChoice(what)) {
            return BAD;
        }
        int best = 0;
        int most = -1;
        for (int law = 0; law < LAWS; law++) {
            thought.become(sea);
            thought.rules[LAW] = law;
            thought.letPass(n);
            int sum = thought.allCaught() + thought.allPlaces();
            if (sum > most) {
                most = sum;
                best = law;
            }
        }
        return what == 0 ? best : most;
    }

    public int turned(int n, int what) {
        if (n < 1 || n > 40 || !isChoice(what)) {
            return BAD;
        }
        if (sea.many == 0) {
            return NONE;
        }
        int best = 1;
        int most = -1;
        for (int turn = 1; turn <= MOST_TURN_TRIED; turn++) {
            thought.become(sea);
            thought.rules[LAW] = 0;
            thought.rules[TURN] = turn;
            thought.letPass(n);
            int least = thought.boats[thought.lastPlaced()].place;
            if (least > most) {
                most = least;
                best = turn;
            }
        }
        return what == 0 ? best : most;
    }

    public int cutOff(int n) {
        if (n < 1 || n > 60) {
            return BAD;
        }
        thought.become(sea);
        thought.letPass(n);
        for (int k = 0; k < MOST_BOATS; k++) {
            gains[k] = thought.boats[k].gain();
        }
        int cutters = 0;
        for (int k = 0; k < MOST_BOATS; k++) {
            if (sea.has(k) && sea.boats[k].tied) {
                thought.become(sea);
                thought.boats[k].tied = false;
                thought.letPass(n);
                if (thought.boats[k].gain() > gains[k]) {
                    cutters |= 1 << k;
                }
            }
        }
        return cutters;
    }

    public int wishes(int n, int what) {
        if (n < 1 || n > 60 || !isChoice(what)) {
            return BAD;
        }
        if (sea.many == 0) {
            return NONE;
        }
        int best = 0;
        int most = -1;
        for (int k = 0; k < sea.many; k++) {
            thought.become(sea);
            thought.giveSail(k);
            thought.letPass(n);
            int sum = thought.allPlaces();
            if (sum > most) {
                most = sum;
                best = k;
            }
        }
        return what == 0 ? best : most;
    }

    public int whose(int sheet, int n, int what) {
        if (!isSheet(sheet) || n < 0 || n > 60 || !isChoice(what)) {
            return BAD;
        }
        if (sheets[sheet].isMissing()) {
            return NOTHING;
        }
        int best = 0;
        int least = 0;
        for (int law = 0; law < LAWS; law++) {
            thought.become(sea);
            thought.rules[LAW] = law;
            thought.letPass(n);
            int sum = thought.differenceFrom(sheets[sheet]);
            if (law == 0 || sum < least) {
                least = sum;
                best = law;
            }
        }
        return what == 0 ? best : least;
    }

    public int fee() {
        Text counts = sea.textFor(FEE);
        return counts == null ? sea.wear : counts.gives(sea.wear, sea.hour, 0);
    }

    public int fine(int boat) {
        if (!sea.has(boat)) {
            return BAD;
        }
        Boat b = sea.boats[boat];
        Text counts = sea.textFor(FINE);
        return counts == null ? b.caught : counts.gives(b.caught, b.patches, 0);
    }

    // ---- texts

    public int feed(int a, int b, int c) {
        if (tape.length + BYTES_FED > MOST_BYTES) {
            return FULL;
        }
        tape.add(a);
        tape.add(b);
        tape.add(c);
        return tape.length;
    }

    public int trim(int n) {
        if (n < 0 || n > tape.length) {
            return BAD;
        }
        tape.length = n;
        return n;
    }

    public int text() {
        tape.parse();
        tape.length = 0;
        if (tape.fault >= 0) {
            return FIRST_FAULT - tape.fault;
        }
        if (sea.textCount >= MOST_TEXTS) {
            return FULL;
        }
        sea.addText(tape.made());
        return sea.textCount - 1;
    }

    public int textTold(int text, int what) {
        if (text < 0 || text >= sea.textCount || !isChoice(what)) {
            return BAD;
        }
        Text t = sea.texts[text];
        if (t == null) {
            return BAD;
        }
        return what == 0 ? t.key : t.operands;
    }

    public int why(int key) {
        if (key < 0 || key >= KEYS) {
            return BAD;
        }
        int text = sea.counting[key];
        return text < 0 ? NONE : text;
    }

    // ---- sheets, slots

    public int sheet(int sheet, int sort, int n) {
        if (!isSheet(sheet) || sort < MISSING || sort > FLOATS) {
            return BAD;
        }
        if (sort == MISSING) {
            sheets[sheet].lose();
            return 0;
        }
        if (n > MOST_PLACES) {
            return BAD;
        }
        if (n < 0) {
            return SIZE;
        }
        sheets[sheet].start(sort, n);
        return n;
    }

    public int mark(int sheet, int place, int v) {
        if (!isSheet(sheet)) {
            return BAD;
        }
        Sheet s = sheets[sheet];
        if (s.isMissing()) {
            return NOTHING;
        }
        if (!s.has(place)) {
            return INDEX;
        }
        if (s.sort == SHORTS && v == NONE) {
            return KIND;
        }
        if (s.sort == FLOATS && v != NONE && (v < -MOST_FLOAT || v > MOST_FLOAT)) {
            return BAD;
        }
        s.put(place, v);
        return 1;
    }

    public int pour(int sheet) {
        if (!isSheet(sheet)) {
            return BAD;
        }
        Sheet s = sheets[sheet];
        if (s.isMissing()) {
            return NOTHING;
        }
        int changed = 0;
        for (int k = 0; k < s.size; k++) {
            if (sea.has(k) && s.isNumber(k)) {
                int want = within(s.valueAt(k), FAR);
                if (sea.boats[k].want != want) {
                    sea.boats[k].want = want;
                    changed++;
                }
            }
        }
        return changed;
    }

    public int reads(int sheet) {
        if (!isSheet(sheet)) {
            return BAD;
        }
        Sheet s = sheets[sheet];
        if (s.isMissing()) {
            return NOTHING;
        }
        for (int k = 0; k < s.size; k++) {
            if (s.isNumber(k) && (!sea.has(k) || s.valueAt(k) != sea.boats[k].place)) {
                return k;
            }
        }
        return NONE;
    }

    public int copy(int from, int place, int to, int at, int many) {
        if (!isSheet(from) || !isSheet(to)) {
            return BAD;
        }
        Sheet source = sheets[from];
        Sheet target = sheets[to];
        if (source.isMissing() || target.isMissing()) {
            return NOTHING;
        }
        if (source.sort != target.sort) {
            return KIND;
        }
        if (!source.hasRun(place, many) || !target.hasRun(at, many)) {
            return INDEX;
        }
        target.take(source, place, at, many);
        return many;
    }

    public int lay(int slot, int thing, int k) {
        if (!isSlot(slot) || thing < HOLDS_NOTHING || thing > HOLDS_NUMBER) {
            return BAD;
        }
        if (thing == HOLDS_BOAT && !sea.has(k) || thing == HOLDS_SHEET && !isSheet(k)) {
            return BAD;
        }
        if (thing == HOLDS_SHEET && sheets[k].isMissing()) {
            return NOTHING;
        }
        int held = slotThings[slot];
        slotThings[slot] = thing;
        if (thing == HOLDS_BOAT) {
            slotBoats[slot].become(sea.boats[k]);
        } else if (thing == HOLDS_SHEET) {
            slotSheets[slot].become(sheets[k]);
        } else {
            slotNumbers[slot] = k;
        }
        return held;
    }

    public int ask(int slot, int kind) {
        if (!isSlot(slot) || !isKind(kind)) {
            return BAD;
        }
        int finding = findingOf(slot, HOLDS_BOAT);
        if (finding != 0) {
            return finding;
        }
        Boat b = slotBoats[slot];
        return b.kind.isOf(kind) ? b.kind.worth(b.weight) : KIND;
    }

    public int item(int slot, int place) {
        if (!isSlot(slot)) {
            return BAD;
        }
        int finding = findingOf(slot, HOLDS_SHEET);
        if (finding != 0) {
            return finding;
        }
        Sheet s = slotSheets[slot];
        if (!s.has(place)) {
            return INDEX;
        }
        return s.isNumber(place) ? s.valueAt(place) : KIND;
    }

    public int rest(int slot, int n) {
        if (!isSlot(slot)) {
            return BAD;
        }
        int finding = findingOf(slot, HOLDS_NUMBER);
        if (finding != 0) {
            return finding;
        }
        return n == 0 ? NO : slotNumbers[slot] % n;
    }

    // ---- rows, images

    public int tell(int v) {
        if (waitingCount >= MOST_WAITING) {
            return FULL;
        }
        waiting[waitingCount] = v;
        waitingCount++;
        return waitingCount;
    }

    public int check(int n) {
        int many = waitingCount;
        waitingCount = 0;
        if (n < 1 || n > MOST_HOURS_TOLD) {
            return BAD;
        }
        if (!imageKept) {
            return NO;
        }
        thought.become(image);
        int hours = Math.min(n, FAR - image.hour);
        for (int h = 0; h < hours; h++) {
            thought.passHour();
            int places = 2 * h;
            int sail = places + 1;
            if (places >= many || waiting[places] != thought.allPlaces()) {
                return 1 + places;
            }
            if (sail >= many || waiting[sail] != thought.sail) {
                return 1 + sail;
            }
        }
        return many > 2 * hours ? 1 + 2 * hours : 0;
    }

    public int keep() {
        image.become(sea);
        imageKept = true;
        return sea.many;
    }

    public int back() {
        if (!imageKept) {
            return NO;
        }
        sea.become(image);
        return sea.many;
    }

    public int count(int what) {
        switch (what) {
            case 0: return sea.many;
            case 1: return sea.hour;
            case 2: return sea.rules[WIND];
            case 3: return sea.rules[LAW];
            case 4: return sea.rules[TURN];
            case 5: return sea.rules[FISH];
            case 6: return sea.rules[STORM];
            case 7: return sea.textCount;
            case 8: return waitingCount;
            case 9: return tape.length;
            case 10: return sea.z;
            default: return BAD;
        }
    }

    // ---- what arguments may be

    private static boolean isKind(int kind) {
        return kind >= 0 && kind < KINDS;
    }

    private static boolean isWeight(int weight) {
        return weight >= 1 && weight <= MOST_WEIGHT;
    }

    private static boolean isPlace(int place) {
        return place >= 0 && place <= FAR;
    }

    private static boolean isSheet(int sheet) {
        return sheet >= 0 && sheet < SHEETS;
    }

    private static boolean isSlot(int slot) {
        return slot >= 0 && slot < SLOTS;
    }

    private static boolean isChoice(int what) {
        return what == 0 || what == 1;
    }

    private static int within(int v, int most) {
        return Math.max(0, Math.min(most, v));
    }

    /** What a call that wants one thing of a slot finds there: 0, if it is that thing. */
    private int findingOf(int slot, int thing) {
        int held = slotThings[slot];
        if (held == thing) {
            return 0;
        }
        return held == HOLDS_NOTHING ? NOTHING : KIND;
    }

    // ---- kinds of boats, each under the one it extends

    /** The kind BOAT; what it does is what those under it do that name nothing else. */
    private static class Kind {
        final int number;
        final Kind above;

        Kind(int number, Kind above) {
            this.number = number;
            this.above = above;
        }

        final boolean isOf(int kind) {
            for (Kind k = this; k != null; k = k.above) {
                if (k.number == kind) {
                    return true;
                }
            }
            return false;
        }

        int pulls(int asBoat) {
            return asBoat;
        }

        int drags(int weight) {
            return weight;
        }

        int rows() {
            return 0;
        }

        int worth(int weight) {
            return weight;
        }
    }

    private static class Proud extends Kind {
        Proud(int number, Kind above) {
            super(number, above);
        }

        @Override
        int pulls(int asBoat) {
            return asBoat + 5;
        }

        @Override
        int drags(int weight) {
            return Math.max(0, weight - 3);
        }

        @Override
        int rows() {
            return 4;
        }

        @Override
        int worth(int weight) {
            return weight + 8;
        }
    }

    private static final class Leader extends Proud {
        Leader(int number, Kind above) {
            super(number, above);
        }

        @Override
        int pulls(int asBoat) {
            return 2 * super.pulls(asBoat);
        }

        @Override
        int rows() {
            return super.rows() + 2;
        }

        @Override
        int worth(int weight) {
            return 2 * super.worth(weight);
        }
    }

    private static class Slow extends Kind {
        Slow(int number, Kind above) {
            super(number, above);
        }

        @Override
        int pulls(int asBoat) {
            return asBoat / 2;
        }

        @Override
        int drags(int weight) {
            return 2 * weight;
        }

        @Override
        int worth(int weight) {
            return 99 - weight;
        }
    }

    private static final class Ninth extends Slow {
        Ninth(int number, Kind above) {
            super(number, above);
        }

        @Override
        int pulls(int asBoat) {
            return super.pulls(asBoat) + 9;
        }

        @Override
        int drags(int weight) {
            return super.drags(weight) - 1;
        }

        @Override
        int rows() {
            return 1;
        }

        @Override
        int worth(int weight) {
            return super.worth(weight) - 7;
        }
    }

    private static final class Tent extends Kind {
        Tent(int number, Kind above) {
            super(number, above);
        }

        @Override
        int pulls(int asBoat) {
            return 0;
        }

        @Override
        int worth(int weight) {
            return 4;
        }
    }

    private static final class Boat {
        Kind kind;
        int weight = 1;
        int place;
        int want;
        int caught;
        int patches;
        boolean tied = true;

        Boat(Kind kind) {
            this.kind = kind;
        }

        /** Boats are used again, so that the room of a run stays small: a new one forgets all of the old. */
        void begin(Kind newKind, int newWeight, int newWant) {
            kind = newKind;
            weight = newWeight;
            place = 0;
            want = newWant;
            caught = 0;
            patches = 0;
            tied = true;
        }

        void become(Boat other) {
            kind = other.kind;
            weight = other.weight;
            place = other.place;
            want = other.want;
            caught = other.caught;
            patches = other.patches;
            tied = other.tied;
        }

        void moveBy(int way) {
            place = Math.min(FAR, place + way);
        }

        int toGo() {
            return want - place;
        }

        int gain() {
            return caught + place;
        }
    }

    /** All that an image keeps, and how an hour passes in it. */
    private static final class Sea {
        final Boat[] boats = new Boat[MOST_BOATS];
        int many;
        int sail;
        final int[] rules = new int[FIRST_RULE.length];
        int wear;
        int since;
        int hour;
        int z = 1;
        final Text[] texts = new Text[MOST_TEXTS];
        int textCount;
        /** For each key the number of the text that counts, or -1. */
        final int[] counting = new int[KEYS];

        Sea(Kind plain) {
            for (int k = 0; k < MOST_BOATS; k++) {
                boats[k] = new Boat(plain);
            }
            System.arraycopy(FIRST_RULE, 0, rules, 0, FIRST_RULE.length);
            Arrays.fill(counting, -1);
        }

        void become(Sea other) {
            for (int k = 0; k < MOST_BOATS; k++) {
                boats[k].become(other.boats[k]);
            }
            many = other.many;
            sail = other.sail;
            System.arraycopy(other.rules, 0, rules, 0, FIRST_RULE.length);
            wear = other.wear;
            since = other.since;
            hour = other.hour;
            z = other.z;
            for (int i = 0; i < MOST_TEXTS; i++) {
                texts[i] = other.texts[i];
            }
            textCount = other.textCount;
            System.arraycopy(other.counting, 0, counting, 0, KEYS);
        }

        boolean has(int boat) {
            return boat >= 0 && boat < many && boat < MOST_BOATS;
        }

        void launch(Kind kind, int weight, int want) {
            if (many < MOST_BOATS) {
                boats[many].begin(kind, weight, want);
                many++;
            }
        }

        void giveSail(int boat) {
            sail = boat;
            since = 0;
        }

        int draw() {
            z = z * 1103515245 + 12345;
            return z >>> 8;
        }

        void addText(Text text) {
            if (textCount < MOST_TEXTS) {
                texts[textCount] = text;
                counting[text.key] = textCount;
                textCount++;
            }
        }

        Text textFor(int key) {
            int text = counting[key];
            return text >= 0 && text < MOST_TEXTS ? texts[text] : null;
        }

        int pullOf(Boat boat) {
            Text counts = textFor(PULL);
            int wind = rules[WIND];
            int given = counts == null ? 10 * wind - boat.weight : counts.gives(wind, boat.weight, since);
            return boat.kind.pulls(within(given, MOST_PULL));
        }

        int pace() {
            if (!has(sail)) {
                return 0;
            }
            int dragged = 0;
            for (int k = 0; k < many; k++) {
                if (k != sail && boats[k].tied) {
                    dragged += boats[k].kind.drags(boats[k].weight);
                }
            }
            return Math.max(0, pullOf(boats[sail]) - dragged / 4);
        }

        void letPass(int n) {
            for (int i = 0; i < n; i++) {
                passHour();
            }
        }

        void passHour() {
            rules[WIND] = draw() % 10;
            boolean torn = draw() % 100 < rules[STORM];
            if (many > 0) {
                if (torn) {
                    tear();
                }
                if (rules[WIND] > 0) {
                    moveAll(pace());
                }
                fishAll();
                wear++;
                since++;
                passSail();
            }
            hour++;
        }

        void tear() {
            int heaviest = heaviest();
            giveSail(heaviest);
            wear += 5;
            boats[heaviest].patches++;
        }

        void moveAll(int pace) {
            for (int k = 0; k < many; k++) {
                boolean sails = k == sail || boats[k].tied;
                boats[k].moveBy(sails ? pace : boats[k].kind.rows());
            }
        }

        void fishAll() {
            int fish = rules[FISH];
            for (int k = 0; k < many; k++) {
                if (k != sail) {
                    boats[k].caught += boats[k].tied ? fish / 2 : fish;
                }
            }
        }

        void passSail() {
            if (rules[LAW] == 0) {
                if (since >= rules[TURN]) {
                    giveSail(sail + 1 < many ? sail + 1 : 0);
                }
            } else if (rules[LAW] == 1) {
                if (rules[WIND] < 4) {
                    giveSail(lastPlaced());
                }
            } else {
                int farthest = farthestFromWant();
                if (boats[farthest].toGo() > 0) {
                    giveSail(farthest);
                }
            }
        }

        int heaviest() {
            int found = 0;
            for (int k = 1; k < many; k++) {
                if (boats[k].weight > boats[found].weight) {
                    found = k;
                }
            }
            return found;
        }

        int lastPlaced() {
            int found = 0;
            for (int k = 1; k < many; k++) {
                if (boats[k].place < boats[found].place) {
                    found = k;
                }
            }
            return found;
        }

        int farthestFromWant() {
            int found = 0;
            for (int k = 1; k < many; k++) {
                if (boats[k].toGo() > boats[found].toGo()) {
                    found = k;
                }
            }
            return found;
        }

        int allCaught() {
            int sum = 0;
            for (int k = 0; k < many; k++) {
                sum += boats[k].caught;
            }
            return sum;
        }

        int allPlaces() {
            int sum = 0;
            for (int k = 0; k < many; k++) {
                sum += boats[k].place;
            }
            return sum;
        }

        int tiedSet() {
            int bits = 0;
            for (int k = 0; k < many; k++) {
                if (boats[k].tied) {
                    bits |= 1 << k;
                }
            }
            return bits;
        }

        int homeSet() {
            int bits = 0;
            for (int k = 0; k < many; k++) {
                if (boats[k].toGo() <= 0) {
                    bits |= 1 << k;
                }
            }
            return bits;
        }

        boolean areAllHome() {
            return homeSet() == (1 << many) - 1;
        }

        /** Beyond all boats 0 stands across from a place of the sheet, so that a number there counts whole. */
        int differenceFrom(Sheet told) {
            int sum = 0;
            for (int k = 0; k < told.size; k++) {
                if (told.isNumber(k)) {
                    int place = has(k) ? boats[k].place : 0;
                    sum += Math.abs(place - told.valueAt(k));
                }
            }
            return sum;
        }
    }

    /** A text as a row in which what is joined stands ahead of the sign that joins it. */
    private static final class Text {
        static final int NAMES_FROM = -3;
        static final int FIRST_NAME = -1;

        final int key;
        final int operands;
        final int[] code;
        final int[] stack;

        Text(int key, int operands, int[] code) {
            this.key = key;
            this.operands = operands;
            this.code = code;
            this.stack = new int[Math.max(1, operands)];
        }

        int gives(int first, int second, int third) {
            int top = 0;
            for (int i = 0; i < code.length; i++) {
                int c = code[i];
                if (c >= NAMES_FROM) {
                    if (top < stack.length) {
                        stack[top] = c >= 0 ? c : c == FIRST_NAME ? first : c == FIRST_NAME - 1 ? second : third;
                        top++;
                    }
                } else if (c == -'!') {
                    if (top >= 1) {
                        stack[top - 1] = stack[top - 1] == 0 ? 1 : 0;
                    }
                } else if (top >= 2) {
                    top--;
                    stack[top - 1] = join(-c, stack[top - 1], stack[top]);
                }
            }
            return stack[0];
        }

        static int join(int sign, int left, int right) {
            switch (sign) {
                case '|': return left != 0 || right != 0 ? 1 : 0;
                case '&': return left != 0 && right != 0 ? 1 : 0;
                case '<': return left < right ? 1 : 0;
                case '=': return left == right ? 1 : 0;
                case '>': return left > right ? 1 : 0;
                case '+': return left + right;
                case '-': return left - right;
                case '*': return left * right;
                default: return right == 0 ? 0 : left / right;
            }
        }
    }

    /** The tape, and how it is read as a text: word by word, sign by sign, up to the first that no text goes on with. */
    private static final class Tape {
        static final int END = 0;
        static final int LETTERS = 1;
        static final int DIGITS = 2;
        static final int SIGN = 3;
        /** A word that can stand in no text, wherever it is. */
        static final int BROKEN = 4;
        static final int MOST_DIGITS = 4;
        static final int MOST_OPEN = 8;
        static final int BLANK = 32;

        final byte[] bytes = new byte[MOST_BYTES];
        int length;
        int sort;
        int start;
        int end;
        /** The place of the fault, or -1. */
        int fault;
        int key;
        int operands;
        final int[] code = new int[MOST_BYTES];
        int codeLength;

        void add(int v) {
            for (int shift = 24; shift >= 0; shift -= 8) {
                if (length < MOST_BYTES) {
                    bytes[length] = (byte) (v >>> shift);
                    length++;
                }
            }
        }

        void parse() {
            fault = -1;
            operands = 0;
            codeLength = 0;
            sort = END;
            end = 0;
            next();
            parseKey();
            if (fault < 0) {
                parseOr(0, 0);
            }
            if (fault < 0 && sort != END) {
                fault = start;
            }
        }

        /** Only the right length is kept, for the row of a text lives as long as the object. */
        Text made() {
            return new Text(key, operands, Arrays.copyOf(code, codeLength));
        }

        void next() {
            int from = end;
            boolean behindWord = sort == LETTERS || sort == DIGITS;
            start = from;
            while (start < length && byteAt(start) == BLANK) {
                start++;
            }
            end = start;
            if (start >= length) {
                sort = END;
                return;
            }
            sort = sortOf(byteAt(start));
            end = start + 1;
            if (sort == SIGN) {
                return;
            }
            while (end < length && sortOf(byteAt(end)) == sort) {
                end++;
            }
            boolean tooLong = sort == DIGITS && end - start > MOST_DIGITS;
            if (tooLong || behindWord && start == from) {
                sort = BROKEN;
            }
        }

        int byteAt(int place) {
            return place >= 0 && place < MOST_BYTES ? bytes[place] & 255 : 0;
        }

        static int sortOf(int b) {
            if (b >= 'a' && b <= 'z') {
                return LETTERS;
            }
            return b >= '0' && b <= '9' ? DIGITS : SIGN;
        }

        boolean isSign(char sign) {
            return sort == SIGN && byteAt(start) == sign;
        }

        boolean isWord(String word) {
            if (sort != LETTERS || end - start != word.length()) {
                return false;
            }
            for (int i = 0; i < word.length(); i++) {
                if (byteAt(start + i) != word.charAt(i)) {
                    return false;
                }
            }
            return true;
        }

        void put(int c) {
            if (codeLength < MOST_BYTES) {
                code[codeLength] = c;
                codeLength++;
            }
        }

        void parseKey() {
            if (isWord("pull")) {
                key = PULL;
            } else if (isWord("fee")) {
                key = FEE;
            } else if (isWord("fine")) {
                key = FINE;
            } else {
                fault = start;
                return;
            }
            next();
        }

        private void parseOr(int brackets, int nots) {
            parseAnd(brackets, nots);
            for (int i = 0; i < MOST_BYTES && fault < 0 && isSign('|'); i++) {
                next();
                parseAnd(brackets, nots);
                put(-'|');
            }
        }

        private void parseAnd(int brackets, int nots) {
            parseTest(brackets, nots);
            for (int i = 0; i < MOST_BYTES && fault < 0 && isSign('&'); i++) {
                next();
                parseTest(brackets, nots);
                put(-'&');
            }
        }

        private void parseTest(int brackets, int nots) {
            parseSum(brackets, nots);
            if (fault < 0 && (isSign('<') || isSign('=') || isSign('>'))) {
                int sign = byteAt(start);
                next();
                parseSum(brackets, nots);
                put(-sign);
            }
        }

        private void parseSum(int brackets, int nots) {
            parseTerm(brackets, nots);
            for (int i = 0; i < MOST_BYTES && fault < 0 && (isSign('+') || isSign('-')); i++) {
                int sign = byteAt(start);
                next();
                parseTerm(brackets, nots);
                put(-sign);
            }
        }

        private void parseTerm(int brackets, int nots) {
            parsePiece(brackets, nots);
            for (int i = 0; i < MOST_BYTES && fault < 0 && (isSign('*') || isSign('/')); i++) {
                int sign = byteAt(start);
                next();
                parsePiece(brackets, nots);
                put(-sign);
            }
        }

        private void parsePiece(int brackets, int nots) {
            if (sort == DIGITS) {
                putOperand(number());
            } else if (sort == LETTERS && nameIndex() >= 0) {
                putOperand(Text.FIRST_NAME - nameIndex());
            } else if (isSign('!') && nots < MOST_OPEN) {
                next();
                parsePiece(brackets, nots + 1);
                put(-'!');
            } else if (isSign('(') && brackets < MOST_OPEN) {
                next();
                parseOr(brackets + 1, nots);
                parseClose();
            } else {
                fault = start;
            }
        }

        void parseClose() {
            if (fault >= 0) {
                return;
            }
            if (isSign(')')) {
                next();
            } else {
                fault = start;
            }
        }

        void putOperand(int c) {
            put(c);
            operands++;
            next();
        }

        int number() {
            int value = 0;
            for (int i = start; i < end; i++) {
                value = value * 10 + byteAt(i) - '0';
            }
            return value;
        }

        /** Which of its key's names the word is, or -1. */
        int nameIndex() {
            String names = key == PULL ? "whs" : key == FEE ? "wn" : "cp";
            return end - start == 1 ? names.indexOf((char) byteAt(start)) : -1;
        }
    }

    /** A row of shorts or floats, or missing; it has its room from the first, so that no call makes any. */
    private static final class Sheet {
        /** Beyond all numbers that a place may hold, and the same as a float and as an int. */
        static final int NO_NUMBER = 1000000;

        int sort = MISSING;
        int size;
        final short[] shorts = new short[MOST_PLACES];
        final float[] floats = new float[MOST_PLACES];

        boolean isMissing() {
            return sort == MISSING;
        }

        void lose() {
            sort = MISSING;
            size = 0;
        }

        void start(int newSort, int places) {
            sort = newSort;
            size = Math.max(0, Math.min(MOST_PLACES, places));
            for (int i = 0; i < MOST_PLACES; i++) {
                shorts[i] = 0;
                floats[i] = 0;
            }
        }

        void become(Sheet other) {
            sort = other.sort;
            size = other.size;
            for (int i = 0; i < MOST_PLACES; i++) {
                shorts[i] = other.shorts[i];
                floats[i] = other.floats[i];
            }
        }

        boolean has(int place) {
            return place >= 0 && place < size && place < MOST_PLACES;
        }

        boolean hasRun(int place, int many) {
            return place >= 0 && many >= 0 && place <= size && many <= size - place;
        }

        boolean isNumber(int place) {
            return has(place) && (sort == SHORTS || (int) floats[place] != NO_NUMBER);
        }

        int valueAt(int place) {
            if (!has(place)) {
                return 0;
            }
            return sort == SHORTS ? shorts[place] : (int) floats[place];
        }

        void put(int place, int v) {
            if (!has(place)) {
                return;
            }
            if (sort == SHORTS) {
                shorts[place] = (short) v;
            } else {
                floats[place] = v == NONE ? NO_NUMBER : v;
            }
        }

        void take(Sheet from, int place, int at, int many) {
            if (from.hasRun(place, many) && hasRun(at, many)) {
                System.arraycopy(from.shorts, place, shorts, at, many);
                System.arraycopy(from.floats, place, floats, at, many);
            }
        }
    }
}
