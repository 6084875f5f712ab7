import java.util.Random;

/** Makes bytes of several likings, always the same ones for the same seed. */
final class Programs {
    private final Random random;

    Programs(long seed) {
        random = new Random(seed);
    }

    int below(int bound) {
        return random.nextInt(bound);
    }

    boolean chance(int oneIn) {
        return random.nextInt(oneIn) == 0;
    }

    /** Forty tables, each of half the bytes or more, which lead to one another. */
    static int[] tables() {
        int[] row = new int[120];
        for (int i = 0; i < 40; i++) {
            row[3 * i] = 136 + i % 4;
            row[3 * i + 1] = 3 * (i % 20);
            row[3 * i + 2] = 117 - 3 * (i % 20);
        }
        return row;
    }

    /** 26 tables that lead to one another and to 21 calls, each of which calls one of them: many functions, each of nearly all. */
    static int[] calledTables() {
        int[] row = new int[120];
        for (int i = 0; i < 26; i++) {
            row[3 * i] = 136 + i % 4;
            row[3 * i + 2] = i < 21 ? 78 + 2 * i : 60 + 3 * (i - 21);
        }
        for (int i = 0; i < 21; i++) {
            row[78 + 2 * i] = 133;
            row[79 + 2 * i] = 3 * i;
        }
        return row;
    }

    int[] make() {
        if (chance(200)) {
            return tables();
        }
        int liking = below(6);
        int size = liking == 5 ? 80 + below(41) : 1 + (chance(6) ? below(120) : below(40));
        int[] row = new int[size];
        int place = 0;
        while (place < size) {
            place = liking == 0 ? putAny(row, place) : putInstruction(row, place, liking);
        }
        return row;
    }

    private int putAny(int[] row, int place) {
        row[place] = below(256);
        return place + 1;
    }

    private int target(int size) {
        return chance(12) ? below(256) : below(size + 1);
    }

    /** A byte that does not fit any more is left out. */
    private int putInstruction(int[] row, int place, int liking) {
        int size = row.length;
        int choice = liking == 5 ? 12 + below(12) : below(liking == 1 ? 14 : liking == 2 ? 20 : 26);
        int[] put;
        if (choice < 2) {
            put = new int[] {16 + below(16), below(256)};
        } else if (choice < 4) {
            put = new int[] {32 + below(96)};
        } else if (choice < 5) {
            put = new int[] {112 + below(16)};
        } else if (choice < 6) {
            put = new int[] {144 + below(16)};
        } else if (choice < 7) {
            put = new int[] {160 + below(16)};
        } else if (choice < 8) {
            put = new int[] {176 + below(32), chance(5) ? below(256) : below(8)};
        } else if (choice < 9) {
            put = new int[] {chance(2) ? below(16) : 134};
        } else if (choice < 14) {
            put = new int[] {128 + below(5), target(size)};
        } else if (choice < 20) {
            put = chance(3) ? new int[] {136 + below(4), below(size), below(5)} : new int[] {129 + below(4), target(size)};
        } else if (choice < 24) {
            put = chance(2) ? new int[] {133, target(size)} : new int[] {134};
        } else {
            put = new int[] {below(256), below(256)};
        }
        for (int i = 0; i < put.length && place + i < size; i++) {
            row[place + i] = put[i];
        }
        return place + put.length;
    }
}
