/** Brings a string to the tape of an object: feed in twelves, trim to its length. */
final class Tapes {
    private Tapes() {
    }

    static int feed(NineSail x, String text) {
        int had = x.count(9);
        for (int i = 0; i < text.length(); i += 12) {
            int fed = x.feed(word(text, i), word(text, i + 4), word(text, i + 8));
            if (fed == NineSail.FULL) {
                return fed;
            }
        }
        return x.trim(had + text.length());
    }

    static int text(NineSail x, String text) {
        feed(x, text);
        return x.text();
    }

    /** Four bytes of the string as one number, the first the highest; 0 beyond its end. */
    static int word(String text, int from) {
        int word = 0;
        for (int i = from; i < from + 4; i++) {
            word = word << 8 | (i < text.length() ? text.charAt(i) & 255 : 0);
        }
        return word;
    }
}
