/** The draws that the document tells, from the seed 1 on. */
final class Draws {
    private long seed = 1;

    int next() {
        seed = Math.floorMod(1103515245L * seed + 12345L, 2147483648L);
        return (int) (seed / 65536L % 100L);
    }

    /** The seed behind so many draws more. */
    long seedAfter(int draws) {
        for (int i = 0; i < draws; i++) {
            next();
        }
        return seed;
    }
}
