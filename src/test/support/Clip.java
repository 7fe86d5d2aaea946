/** Sight told another way than the program tells it: the line is cut by the bands of a cell. */
final class Clip {
    private Clip() {
    }

    // The line is middle + part * way, for parts 0 to scale; lengths are doubled, so the middles are odd.
    static boolean enters(int one, int other, int bunker) {
        long rows = 2 * (other / 12 - one / 12);
        long columns = 2 * (other % 12 - one % 12);
        long scale = (rows == 0 ? 1 : Math.abs(rows)) * (columns == 0 ? 1 : Math.abs(columns));
        long[] inRows = part(2 * (one / 12) + 1, rows, 2 * (bunker / 12), scale);
        long[] inColumns = part(2 * (one % 12) + 1, columns, 2 * (bunker % 12), scale);
        long from = Math.max(inRows[0], inColumns[0]);
        long to = Math.min(inRows[1], inColumns[1]);
        return from < to && from < scale && to > 0;
    }

    // The open stretch of parts in which the line is strictly between low and low + 2.
    private static long[] part(long start, long way, long low, long scale) {
        if (way == 0) {
            boolean inside = start > low && start < low + 2;
            return inside ? new long[] {Long.MIN_VALUE, Long.MAX_VALUE} : new long[] {0, 0};
        }
        long first = (low - start) * (scale / way);
        long second = (low + 2 - start) * (scale / way);
        return new long[] {Math.min(first, second), Math.max(first, second)};
    }
}
