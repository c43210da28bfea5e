import com.sun.management.ThreadMXBean;
import java.lang.management.ManagementFactory;
import java.util.Arrays;

/** All calls of a run live in one room: an object takes little of it, and no call takes any. */
public final class RoomTest {
    private static final int BYTES_OF_ONE = 20000, CALLED_EACH = 500;
    /** No object or array is smaller. */
    private static final int LEAST_BYTES = 16;
    private static final ThreadMXBean ROOM = (ThreadMXBean) ManagementFactory.getThreadMXBean();
    private static final int[][] CALLS = {{2, 3, 40}, {2, 4, 3}, {3, 3, 7, 5}, {4, 3, 7}, {6, 3, 0, 3, 1, 9}, {7, 3}, {5, 3},
        {8, 1, 60}, {9, 1, 3, 119}, {10, 1}, {10, 0}, {12, 0, 5}, {13, 1, 2}, {14, 5}, {15, 1, 2}, {16, 1, 0}, {16, 0, 1},
        {17, 0}, {18}, {20, 0}, {35, 9, 9}, {21, 0}, {22}, {23}, {24, 0}, {25, 0, 5}, {25, 12, 5}, {26, 0, 5}, {27}, {28},
        {29, 0}, {30, 1, 1}, {31, 1, 1}, {32, 5}, {33, 1, 0, 5}, {34, 0, 5}, {36}, {37}, {38}, {39, 6}, {40}, {41, 1}, {42},
        {2, 9, 9}, {2, 0, -1}, {11, 0}, {11, 1}, {19, 0}};

    private static SnowHut last;

    public static void main(String[] args) {
        long before = ROOM.getCurrentThreadAllocatedBytes();
        for (int n = 0; n < 100; n++) {
            last = new SnowHut();
        }
        long each = (ROOM.getCurrentThreadAllocatedBytes() - before) / 100;
        Due.is("1: bytes of a new object, beyond " + BYTES_OF_ONE, Math.max(each, BYTES_OF_ONE), BYTES_OF_ONE);
        SnowHut x = Due.hutWithTwoUp("w20 f01f12 g9340 a4900 m9009 c4949 h0000 b5555");
        Due.fill(x, 0, 0, 5, 1, 4, 0, 5);
        Due.fill(x, 1, 0, 9, 12);
        for (int[] call : CALLS) {
            long taken = takenBy(x, call[0], Arrays.copyOfRange(call, 1, 7));
            // Some machines count now and then what they take themselves: far less than all calls would.
            Due.is("objects that each call of " + Pair.NAMES[call[0]] + "() makes", taken / CALLED_EACH / LEAST_BYTES, 0);
        }
        Due.end("RoomTest");
    }

    private static long takenBy(SnowHut x, int promise, int[] a) {
        long before = ROOM.getCurrentThreadAllocatedBytes();
        for (int n = 0; n < CALLED_EACH; n++) {
            SnowHutCalls.call(x, promise, a);
        }
        return ROOM.getCurrentThreadAllocatedBytes() - before;
    }
}
