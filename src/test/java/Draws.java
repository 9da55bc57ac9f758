/** The draws of the document, so that tests can choose a z behind which the winds and storms they need come. */
final class Draws {
    private int z;

    Draws(int z) {
        this.z = z;
    }

    int next() {
        z = z * 1103515245 + 12345;
        return z >>> 8;
    }

    int z() {
        return z;
    }

    /** The least z from 0 on behind which the next hours have these winds. */
    static int forWinds(int... winds) {
        return search(winds, null);
    }

    /** Likewise, and the rests by 100 of the draws for storms are these. */
    static int forHours(int[] winds, int[] storms) {
        return search(winds, storms);
    }

    private static int search(int[] winds, int[] storms) {
        for (int z = 0; z < 100000000; z++) {
            if (fits(z, winds, storms)) {
                return z;
            }
        }
        throw new IllegalStateException("no z has these winds");
    }

    private static boolean fits(int z, int[] winds, int[] storms) {
        Draws d = new Draws(z);
        for (int i = 0; i < winds.length; i++) {
            int wind = d.next() % 10;
            int storm = d.next() % 100;
            if (wind != winds[i] || storms != null && storm != storms[i]) {
                return false;
            }
        }
        return true;
    }
}
