import java.util.ArrayList;
import java.util.Arrays;
import java.util.HashMap;
import java.util.List;
import java.util.Map;
import java.util.function.IntBinaryOperator;
import java.util.function.IntPredicate;
import java.util.function.ToIntFunction;

/**
 * The document once more, written by itself and in another way than the class: whole copies for whatever is only
 * thought, texts by a row of tokens with a table of what may follow, refusals by an exception.
 */
final class Model {
    static final int BAD = -1000000001, NO = -1000000002, FULL = -1000000003, NONE = -1000000005;
    static final int NOTHING = -1000000011, KIND = -1000000012, INDEX = -1000000013, SIZE = -1000000014;

    static final class Refused extends RuntimeException {
        private static final long serialVersionUID = 1;
        final int answer;

        Refused(int answer) {
            super(null, null, false, false);
            this.answer = answer;
        }
    }

    static void refuseIf(boolean bad, int answer) {
        if (bad) {
            throw new Refused(answer);
        }
    }

    static void range(int v, int least, int most) {
        refuseIf(v < least || v > most, BAD);
    }

    /** kind, weight, place, want, catch, tied, patches */
    static final class B {
        int[] f;

        B(int... f) {
            this.f = f;
        }

        B twin() {
            return new B(f.clone());
        }

        int pulls(int asBoat) {
            return new int[] {asBoat, asBoat + 5, asBoat / 2, (asBoat + 5) * 2, asBoat / 2 + 9, 0}[f[0]];
        }

        int drags() {
            int w = f[1];
            int p = w < 3 ? 0 : w - 3;
            return new int[] {w, p, w + w, p, w + w - 1, w}[f[0]];
        }

        int rows() {
            return new int[] {0, 4, 0, 6, 1, 0}[f[0]];
        }

        int worth() {
            int w = f[1];
            return new int[] {w, w + 8, 99 - w, w + w + 16, 92 - w, 4}[f[0]];
        }

        boolean under(int kind) {
            String[] above = {"0", "01", "02", "013", "024", "05"};
            return above[f[0]].indexOf('0' + kind) >= 0;
        }
    }

    static final class T {
        int key;
        int operands;
        List<Object> postfix = new ArrayList<>();

        int gives(Map<String, Integer> names) {
            List<Integer> stack = new ArrayList<>();
            for (Object o : postfix) {
                if (o instanceof Integer) {
                    stack.add((Integer) o);
                } else if (names.containsKey(o)) {
                    stack.add(names.get(o));
                } else if (o.equals("!")) {
                    stack.add(stack.remove(stack.size() - 1) == 0 ? 1 : 0);
                } else {
                    int right = stack.remove(stack.size() - 1);
                    int left = stack.remove(stack.size() - 1);
                    stack.add(operator((String) o).applyAsInt(left, right));
                }
            }
            return stack.get(0);
        }

        static IntBinaryOperator operator(String sign) {
            switch (sign) {
                case "|": return (a, b) -> a == 0 && b == 0 ? 0 : 1;
                case "&": return (a, b) -> a == 0 || b == 0 ? 0 : 1;
                case "<": return (a, b) -> Integer.compare(a, b) < 0 ? 1 : 0;
                case ">": return (a, b) -> Integer.compare(a, b) > 0 ? 1 : 0;
                case "=": return (a, b) -> a - b == 0 ? 1 : 0;
                case "+": return (a, b) -> (int) ((long) a + b);
                case "-": return (a, b) -> (int) ((long) a - b);
                case "*": return (a, b) -> (int) ((long) a * b);
                case "/": return (a, b) -> b == 0 ? 0 : (int) ((long) a / b);
                default: throw new IllegalStateException(sign);
            }
        }
    }

    static final class State {
        List<B> boats = new ArrayList<>();
        int sail, wear, since, hour;
        int[] rule = {5, 0, 3, 4, 0};
        int z = 1;
        List<T> texts = new ArrayList<>();

        State twin() {
            State s = new State();
            for (B b : boats) {
                s.boats.add(b.twin());
            }
            s.sail = sail;
            s.wear = wear;
            s.since = since;
            s.hour = hour;
            s.rule = rule.clone();
            s.z = z;
            s.texts.addAll(texts);
            return s;
        }

        int draw() {
            z = (int) (z * 1103515245L + 12345L);
            return (int) ((z & 0xffffffffL) / 256);
        }

        int textOf(int key) {
            int found = NONE;
            for (int i = 0; i < texts.size(); i++) {
                if (texts.get(i).key == key) {
                    found = i;
                }
            }
            return found;
        }

        int give(int key, int without, Object... names) {
            int text = textOf(key);
            if (text == NONE) {
                return without;
            }
            Map<String, Integer> map = new HashMap<>();
            for (int i = 0; i < names.length; i += 2) {
                map.put((String) names[i], (Integer) names[i + 1]);
            }
            return texts.get(text).gives(map);
        }

        int pulls(B b) {
            int given = give(0, 10 * rule[0] - b.f[1], "w", rule[0], "h", b.f[1], "s", since);
            return b.pulls(given < 0 ? 0 : given > 999 ? 999 : given);
        }

        int speed() {
            if (boats.isEmpty()) {
                return 0;
            }
            int drag = 0;
            for (B b : boats) {
                drag += b != boats.get(sail) && b.f[5] == 1 ? b.drags() : 0;
            }
            return Math.max(pulls(boats.get(sail)) - drag / 4, 0);
        }

        int greatest(ToIntFunction<B> of) {
            int best = 0;
            for (int k = 0; k < boats.size(); k++) {
                if (of.applyAsInt(boats.get(k)) > of.applyAsInt(boats.get(best))) {
                    best = k;
                }
            }
            return best;
        }

        int sum(ToIntFunction<B> of) {
            return boats.stream().mapToInt(of).sum();
        }

        void hour() {
            rule[0] = draw() % 10;
            boolean storm = draw() % 100 < rule[4];
            hour++;
            if (boats.isEmpty()) {
                return;
            }
            if (storm) {
                sail = greatest(b -> b.f[1]);
                since = 0;
                wear += 5;
                boats.get(sail).f[6]++;
            }
            int speed = speed();
            for (int k = 0; k < boats.size(); k++) {
                B b = boats.get(k);
                int way = rule[0] == 0 ? 0 : k == sail || b.f[5] == 1 ? speed : b.rows();
                b.f[2] = Math.min(b.f[2] + way, 9999);
                b.f[4] += k == sail ? 0 : b.f[5] == 1 ? rule[3] / 2 : rule[3];
            }
            wear++;
            since++;
            int to = -1;
            if (rule[1] == 0 && since >= rule[2]) {
                to = (sail + 1) % boats.size();
            } else if (rule[1] == 1 && rule[0] < 4) {
                to = greatest(b -> -b.f[2]);
            } else if (rule[1] == 2) {
                int most = greatest(b -> b.f[3] - b.f[2]);
                to = boats.get(most).f[3] > boats.get(most).f[2] ? most : -1;
            }
            if (to >= 0) {
                sail = to;
                since = 0;
            }
        }

        State behind(int n) {
            State s = twin();
            for (int i = 0; i < n; i++) {
                s.hour();
            }
            return s;
        }

        State with(int what, int v) {
            State s = twin();
            s.rule[what] = v;
            return s;
        }

        int bits(IntPredicate is) {
            int bits = 0;
            for (int k = 0; k < boats.size(); k++) {
                bits += is.test(k) ? 1 << k : 0;
            }
            return bits;
        }
    }

    State now = new State();
    State image;
    List<Integer> tape = new ArrayList<>();
    List<Integer> waits = new ArrayList<>();
    /** A sheet is null, or its sort with its places; null in a place is no number. */
    Integer[][] sheets = new Integer[4][];
    int[] sorts = new int[4];
    Object[] slots = new Object[5];

    B boatOf(int k) {
        refuseIf(k < 0 || k >= now.boats.size(), BAD);
        return now.boats.get(k);
    }

    int call(String name, int[] a) {
        try {
            return answer(name, a);
        } catch (Refused r) {
            return r.answer;
        }
    }

    private int answer(String name, int[] a) {
        switch (name) {
            case "boat": return boat(a[0], a[1], a[2]);
            case "told": return told(a[0], a[1]);
            case "as": range(a[1], 0, 5); refuseIf(!boatOf(a[0]).under(a[1]), KIND); return boatOf(a[0]).f[1];
            case "turns": range(a[1], 0, 5); return swap(boatOf(a[0]).f, 0, a[1]);
            case "set": range(a[1], 1, 3); range(a[2], a[1] == 1 ? 1 : 0, a[1] == 1 ? 50 : 9999);
                return swap(boatOf(a[0]).f, a[1], a[2]);
            case "ties": range(a[1], 0, 1); return swap(boatOf(a[0]).f, 5, a[1]);
            case "hands": { boatOf(a[0]); int had = now.sail; now.sail = a[0]; now.since = 0; return had; }
            case "rule": range(a[0], 0, 4);
                range(a[1], a[0] == 2 ? 1 : 0, new int[] {9, 2, 99, 99, 100}[a[0]]); return swap(now.rule, a[0], a[1]);
            case "deal": return deal(a[0]);
            case "seed": { int was = now.z; now.z = a[0]; return was; }
            case "speed": return now.speed();
            case "hours": return hours(a[0]);
            case "fleet": return fleet(a[0]);
            case "fee": return now.give(1, now.wear, "w", now.wear, "n", now.hour);
            case "fine": { B b = boatOf(a[0]); return now.give(2, b.f[4], "c", b.f[4], "p", b.f[6]); }
            case "keep": image = now.twin(); return image.boats.size();
            case "back": refuseIf(image == null, NO); now = image.twin(); return now.boats.size();
            case "tell": refuseIf(waits.size() == 60, FULL); waits.add(a[0]); return waits.size();
            case "check": return check(a[0]);
            case "count": range(a[0], 0, 10);
                return new int[] {now.boats.size(), now.hour, now.rule[0], now.rule[1], now.rule[2], now.rule[3],
                    now.rule[4], now.texts.size(), waits.size(), tape.size(), now.z}[a[0]];
            default: return thought(name, a);
        }
    }

    private int thought(String name, int[] a) {
        switch (name) {
            case "behind": {
                range(a[0], 0, 100);
                range(a[1], 0, 2 + now.boats.size());
                State s = now.behind(a[0]);
                return a[1] == 0 ? s.sum(b -> b.f[4]) : a[1] == 1 ? s.sail : a[1] == 2 ? s.wear
                    : s.boats.get(a[1] - 3).f[2];
            }
            case "home": {
                State s = now.twin();
                for (int h = 0; h <= 300; h++, s.hour()) {
                    if (s.boats.stream().allMatch(b -> b.f[2] >= b.f[3])) {
                        return h;
                    }
                }
                return NONE;
            }
            case "bestLaw": return bestLaw(a[0], a[1]);
            case "turned": return turned(a[0], a[1]);
            case "cutOff": return cutOff(a[0]);
            case "wishes": return wishes(a[0], a[1]);
            case "whose": return whose(a[0], a[1], a[2]);
            default: return texts(name, a);
        }
    }

    private int texts(String name, int[] a) {
        switch (name) {
            case "feed": {
                refuseIf(tape.size() > 84, FULL);
                for (int i = 0; i < 12; i++) {
                    tape.add(a[i / 4] >> 24 - 8 * (i % 4) & 0xff);
                }
                return tape.size();
            }
            case "trim": range(a[0], 0, tape.size()); tape = new ArrayList<>(tape.subList(0, a[0])); return a[0];
            case "text": {
                StringBuilder b = new StringBuilder();
                tape.forEach(c -> b.append((char) (int) c));
                tape.clear();
                T t = read(b.toString());
                refuseIf(now.texts.size() == 14, FULL);
                now.texts.add(t);
                return now.texts.size() - 1;
            }
            case "textTold": {
                range(a[0], 0, now.texts.size() - 1);
                range(a[1], 0, 1);
                return a[1] == 0 ? now.texts.get(a[0]).key : now.texts.get(a[0]).operands;
            }
            case "why": range(a[0], 0, 2); return now.textOf(a[0]);
            default: return sheets(name, a);
        }
    }

    private int sheets(String name, int[] a) {
        switch (name) {
            case "sheet": return sheet(a[0], a[1], a[2]);
            case "mark": return mark(a[0], a[1], a[2]);
            case "pour": return pour(sheetOf(a[0]));
            case "reads": return reads(sheetOf(a[0]));
            case "copy": return copy(a);
            case "lay": return lay(a[0], a[1], a[2]);
            case "ask": {
                range(a[0], 0, 4);
                range(a[1], 0, 5);
                B b = (B) held(a[0], B.class);
                refuseIf(!b.under(a[1]), KIND);
                return b.worth();
            }
            case "item": {
                range(a[0], 0, 4);
                Integer[] row = (Integer[]) held(a[0], Integer[].class);
                refuseIf(a[1] < 0 || a[1] >= row.length, INDEX);
                refuseIf(row[a[1]] == null, KIND);
                return row[a[1]];
            }
            case "rest": {
                range(a[0], 0, 4);
                int v = (Integer) held(a[0], Integer.class);
                refuseIf(a[1] == 0, NO);
                return (int) ((long) v % a[1]);
            }
            default: throw new IllegalArgumentException(name);
        }
    }

    private static int swap(int[] row, int at, int v) {
        int was = row[at];
        row[at] = v;
        return was;
    }

    private int boat(int kind, int weight, int want) {
        range(kind, 0, 5);
        range(weight, 1, 50);
        range(want, 0, 9999);
        refuseIf(now.boats.size() == 9, FULL);
        now.boats.add(new B(kind, weight, 0, want, 0, 1, 0));
        return now.boats.size() - 1;
    }

    private int told(int boat, int what) {
        B b = boatOf(boat);
        range(what, 0, 10);
        return what < 7 ? b.f[what] : new int[] {now.pulls(b), b.drags(), b.rows(), b.worth()}[what - 7];
    }

    private int deal(int n) {
        range(n, 1, 9);
        int came = 0;
        while (came < n && now.boats.size() < 9) {
            int kind = now.draw() % 6;
            int weight = now.draw() % 20 + 1;
            boat(kind, weight, now.draw() % 500);
            came++;
        }
        return came;
    }

    private int hours(int n) {
        range(n, 1, 100);
        int before = fleet(0);
        for (int i = 0; i < n && now.hour < 9999; i++) {
            now.hour();
        }
        return fleet(0) - before;
    }

    private int fleet(int what) {
        switch (what) {
            case 0: return now.sum(b -> b.f[4]);
            case 1: return now.sum(b -> b.f[2]);
            case 2: return now.wear;
            case 3: return now.sail;
            case 4: return now.since;
            case 5: return now.bits(k -> now.boats.get(k).f[5] == 1);
            case 6: return now.bits(k -> now.boats.get(k).f[2] >= now.boats.get(k).f[3]);
            default: return BAD;
        }
    }

    /** The first of the greatest, and how great it is. */
    private static int choose(int what, int first, List<Integer> values) {
        int best = 0;
        for (int i = 0; i < values.size(); i++) {
            best = values.get(i) > values.get(best) ? i : best;
        }
        return what == 0 ? first + best : values.get(best);
    }

    private int bestLaw(int n, int what) {
        range(n, 1, 60);
        range(what, 0, 1);
        List<Integer> sums = new ArrayList<>();
        for (int law = 0; law < 3; law++) {
            sums.add(now.with(1, law).behind(n).sum(b -> b.f[4] + b.f[2]));
        }
        return choose(what, 0, sums);
    }

    private int turned(int n, int what) {
        range(n, 1, 40);
        range(what, 0, 1);
        refuseIf(now.boats.isEmpty(), NONE);
        List<Integer> least = new ArrayList<>();
        for (int turn = 1; turn <= 20; turn++) {
            State s = now.with(1, 0).with(2, turn).behind(n);
            least.add(s.boats.stream().mapToInt(b -> b.f[2]).min().getAsInt());
        }
        return choose(what, 1, least);
    }

    private int cutOff(int n) {
        range(n, 1, 60);
        State plain = now.behind(n);
        return now.bits(k -> {
            State cut = now.twin();
            cut.boats.get(k).f[5] = 0;
            B then = cut.behind(n).boats.get(k);
            B as = plain.boats.get(k);
            return now.boats.get(k).f[5] == 1 && then.f[4] + then.f[2] > as.f[4] + as.f[2];
        });
    }

    private int wishes(int n, int what) {
        range(n, 1, 60);
        range(what, 0, 1);
        refuseIf(now.boats.isEmpty(), NONE);
        List<Integer> sums = new ArrayList<>();
        for (int k = 0; k < now.boats.size(); k++) {
            State s = now.twin();
            s.sail = k;
            s.since = 0;
            sums.add(s.behind(n).sum(b -> b.f[2]));
        }
        return choose(what, 0, sums);
    }

    private int whose(int sheet, int n, int what) {
        range(n, 0, 60);
        range(what, 0, 1);
        Integer[] row = sheetOf(sheet);
        List<Integer> less = new ArrayList<>();
        for (int law = 0; law < 3; law++) {
            State s = now.with(1, law).behind(n);
            int differ = 0;
            for (int k = 0; k < row.length; k++) {
                int across = k < s.boats.size() ? s.boats.get(k).f[2] : 0;
                differ += row[k] == null ? 0 : Math.abs(row[k] - across);
            }
            less.add(-differ);
        }
        int chosen = choose(what, 0, less);
        return what == 0 ? chosen : -chosen;
    }

    private int check(int n) {
        List<Integer> told = waits;
        waits = new ArrayList<>();
        range(n, 1, 30);
        refuseIf(image == null, NO);
        List<Integer> due = new ArrayList<>();
        State s = image.twin();
        for (int i = 0; i < n && s.hour < 9999; i++) {
            s.hour();
            due.add(s.sum(b -> b.f[2]));
            due.add(s.sail);
        }
        if (due.equals(told)) {
            return 0;
        }
        int same = 0;
        while (same < due.size() && same < told.size() && due.get(same).equals(told.get(same))) {
            same++;
        }
        return 1 + same;
    }

    // ---- sheets and slots

    private Integer[] sheetOf(int sheet) {
        range(sheet, 0, 3);
        refuseIf(sheets[sheet] == null, NOTHING);
        return sheets[sheet];
    }

    private int sheet(int sheet, int sort, int n) {
        range(sheet, 0, 3);
        range(sort, -1, 1);
        if (sort == -1) {
            sheets[sheet] = null;
            return 0;
        }
        refuseIf(n > 24, BAD);
        refuseIf(n < 0, SIZE);
        sheets[sheet] = new Integer[n];
        Arrays.fill(sheets[sheet], 0);
        sorts[sheet] = sort;
        return n;
    }

    private int mark(int sheet, int place, int v) {
        Integer[] row = sheetOf(sheet);
        refuseIf(place < 0 || place >= row.length, INDEX);
        if (sorts[sheet] == 0) {
            refuseIf(v == NONE, KIND);
            row[place] = (int) (short) v;
        } else {
            refuseIf(v != NONE && Math.abs((long) v) > 99999, BAD);
            row[place] = v == NONE ? null : v;
        }
        return 1;
    }

    private int pour(Integer[] row) {
        int otherwise = 0;
        for (int k = 0; k < now.boats.size() && k < row.length; k++) {
            if (row[k] != null) {
                int v = row[k] < 0 ? 0 : row[k] > 9999 ? 9999 : row[k];
                otherwise += swap(now.boats.get(k).f, 3, v) == v ? 0 : 1;
            }
        }
        return otherwise;
    }

    private int reads(Integer[] row) {
        for (int k = 0; k < row.length; k++) {
            boolean is = row[k] == null || k < now.boats.size() && now.boats.get(k).f[2] == row[k];
            if (!is) {
                return k;
            }
        }
        return NONE;
    }

    private int copy(int[] a) {
        range(a[0], 0, 3);
        range(a[2], 0, 3);
        Integer[] from = sheetOf(a[0]);
        Integer[] to = sheetOf(a[2]);
        refuseIf(sorts[a[0]] != sorts[a[2]], KIND);
        boolean outside = a[1] < 0 || a[3] < 0 || a[4] < 0
            || (long) a[1] + a[4] > from.length || (long) a[3] + a[4] > to.length;
        refuseIf(outside, INDEX);
        Integer[] old = from.clone();
        for (int i = 0; i < a[4]; i++) {
            to[a[3] + i] = old[a[1] + i];
        }
        return a[4];
    }

    private static int thingOf(Object held) {
        return held == null ? 0 : held instanceof B ? 1 : held instanceof Integer[] ? 2 : 3;
    }

    private int lay(int slot, int thing, int k) {
        range(slot, 0, 4);
        range(thing, 0, 3);
        Object lays = thing == 0 ? null : thing == 1 ? boatOf(k).twin() : thing == 2 ? sheetOf(k).clone() : (Object) k;
        int was = thingOf(slots[slot]);
        slots[slot] = lays;
        return was;
    }

    private Object held(int slot, Class<?> of) {
        refuseIf(slots[slot] == null, NOTHING);
        refuseIf(!of.isInstance(slots[slot]), KIND);
        return slots[slot];
    }

    // ---- texts: tokens, what may follow, and signs by how tight they bind

    private static final String[] NAMES = {"whs", "wn", "cp"};

    private static T read(String s) {
        T t = new T();
        List<String> pending = new ArrayList<>();
        boolean wantsPiece = true;
        boolean keyRead = false;
        int at = 0;
        boolean wordEndsHere = false;
        while (true) {
            int from = at;
            while (at < s.length() && s.charAt(at) == ' ') {
                at++;
            }
            boolean glued = wordEndsHere && at == from;
            String token = tokenAt(s, at);
            boolean word = !token.isEmpty() && Character.isLetterOrDigit(token.charAt(0)) && token.charAt(0) < 128;
            boolean letters = word && token.charAt(0) >= 'a';
            Refused fault = new Refused(-100 - at);
            if (word && glued || token.isEmpty() && (wantsPiece || !keyRead || pending.contains("("))) {
                throw fault;
            }
            if (token.isEmpty()) {
                popDown(t, pending, 0);
                return t;
            }
            if (!keyRead) {
                t.key = Arrays.asList("pull", "fee", "fine").indexOf(token);
                refuseFault(t.key < 0, fault);
                keyRead = true;
            } else if (wantsPiece) {
                wantsPiece = piece(t, pending, token, letters, fault);
            } else {
                wantsPiece = sign(t, pending, token, fault);
            }
            at += token.length();
            wordEndsHere = word;
        }
    }

    private static void refuseFault(boolean is, Refused fault) {
        if (is) {
            throw fault;
        }
    }

    private static String tokenAt(String s, int at) {
        if (at == s.length()) {
            return "";
        }
        int end = at + 1;
        for (String row : new String[] {"abcdefghijklmnopqrstuvwxyz", "0123456789"}) {
            if (row.indexOf(s.charAt(at)) >= 0) {
                while (end < s.length() && row.indexOf(s.charAt(end)) >= 0) {
                    end++;
                }
            }
        }
        return s.substring(at, end);
    }

    private static long open(List<String> pending, String sign) {
        return pending.stream().filter(sign::equals).count();
    }

    /** A token where a piece must begin; answers whether one is still wanted behind it. */
    private static boolean piece(T t, List<String> pending, String token, boolean letters, Refused fault) {
        if (token.equals("(") || token.equals("!")) {
            refuseFault(open(pending, token) == 8, fault);
            pending.add(token);
            return true;
        }
        if (letters) {
            refuseFault(token.length() > 1 || NAMES[t.key].indexOf(token.charAt(0)) < 0, fault);
            t.postfix.add(token);
        } else {
            refuseFault(!token.matches("[0-9]{1,4}"), fault);
            t.postfix.add(Integer.valueOf(token));
        }
        t.operands++;
        endPiece(t, pending);
        return false;
    }

    private static void endPiece(T t, List<String> pending) {
        while (!pending.isEmpty() && pending.get(pending.size() - 1).equals("!")) {
            t.postfix.add(pending.remove(pending.size() - 1));
        }
    }

    private static int tightness(String sign) {
        return sign.length() != 1 ? -1
            : new int[] {1, 2, 3, 3, 3, 4, 4, 5, 5, -1}["|&<=>+-*/".indexOf(sign) < 0 ? 9 : "|&<=>+-*/".indexOf(sign)];
    }

    private static void popDown(T t, List<String> pending, int tightness) {
        while (!pending.isEmpty() && !pending.get(pending.size() - 1).equals("(")
            && tightness(pending.get(pending.size() - 1)) >= tightness) {
            t.postfix.add(pending.remove(pending.size() - 1));
        }
    }

    /** A token behind a piece; answers whether a piece is wanted behind it. */
    private static boolean sign(T t, List<String> pending, String token, Refused fault) {
        if (token.equals(")")) {
            refuseFault(!pending.contains("("), fault);
            popDown(t, pending, 0);
            pending.remove(pending.size() - 1);
            endPiece(t, pending);
            return false;
        }
        int tight = tightness(token);
        refuseFault(tight < 0, fault);
        if (tight == 3) {
            popDown(t, pending, 4);
            boolean tested = !pending.isEmpty() && tightness(pending.get(pending.size() - 1)) == 3;
            refuseFault(tested, fault);
        } else {
            popDown(t, pending, tight);
        }
        pending.add(token);
        return true;
    }
}
