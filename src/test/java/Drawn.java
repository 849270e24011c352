/** The rows of draw(), drawn once more as promise 13 says, and told as Check.row() tells a ROW. */
final class Drawn {
    private int x;
    private int objects;
    /** How often each way of telling an argument came, and a MAKE that there was no room for. */
    final int[] ways = new int[4];
    int refusedMakes;

    int next() {
        x = 1103515245 * x + 12345;
        return (x & 0x7fffffff) / 65536;
    }

    /** Row i of a class whose members have these ranges (low, high for each param). */
    String row(int c, int seed, int i, int[][] members) {
        x = seed + 7919 * i;
        int size = 1 + next() % 10;
        StringBuilder row = new StringBuilder("m" + c);
        objects = 1;
        for (int k = 1; k < size; k++) {
            boolean makes = next() % 8 == 0;
            if (makes && objects < 3) {
                row.append(" m").append(c);
                objects++;
                continue;
            }
            refusedMakes += makes ? 1 : 0;
            row.append(' ').append(call(members));
        }
        return row.toString();
    }

    private String call(int[][] members) {
        int object = next() % objects;
        int member = next() % members.length;
        StringBuilder call = new StringBuilder(object + "." + member + "(");
        for (int p = 0; p < 3; p++) {
            boolean has = 2 * p < members[member].length;
            call.append(p == 0 ? "" : ",").append(has ? argument(members[member][2 * p], members[member][2 * p + 1]) : 0);
        }
        return call.append(')').toString();
    }

    private long argument(long low, long high) {
        int way = next() % 4;
        ways[way]++;
        switch (way) {
            case 0: return low;
            case 1: return high;
            case 2: return low <= 0 && 0 <= high ? 0 : low;
            default: return low + next() % (high - low + 1);
        }
    }
}
