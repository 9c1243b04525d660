/** Numbers that look drawn by lot, and are the same each time. */
final class Draw {
    private long state;

    Draw(long seed) {
        state = seed * 0x9E3779B97F4A7C15L + 0x1234567L;
        for (int i = 0; i < 8; i++) {
            from(0, 1);
        }
    }

    int from(int least, int most) {
        state = state * 6364136223846793005L + 1442695040888963407L;
        long high = state >>> 33;
        return most < least ? least : least + (int) (high % ((long) most - least + 1));
    }

    char oneOf(String signs) {
        return signs.charAt(from(0, signs.length() - 1));
    }

    /** A number from a stretch, and once in a while, one beside it or far off. */
    int wild(int least, int most, int seldom) {
        if (from(1, seldom) > 1) {
            return from(least, most);
        }
        int[] far = {least - 1, most + 1, -1, 0, 7, 300, 301, 1000, Integer.MAX_VALUE, Integer.MIN_VALUE, 5, 60, 61};
        return far[from(0, far.length - 1)];
    }
}
