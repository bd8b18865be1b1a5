import java.lang.management.ManagementFactory;

/** All calls of a run live in one room: calls make nothing, and an object is small. */
public final class RoomTest {
    /** Six calls each: within the 512 of the document. */
    private static final int ROUNDS = 80;
    private static final long ALLOWED_FOR_CALLS = 4096;
    private static final long ALLOWED_FOR_OBJECT = 32768;

    private static long made() {
        com.sun.management.ThreadMXBean threads =
                (com.sun.management.ThreadMXBean) ManagementFactory.getThreadMXBean();
        return threads.getThreadAllocatedBytes(Thread.currentThread().getId());
    }

    private static int dearCalls(ShortVectorSigner x) {
        int sum = 0;
        for (int n = 0; n < ROUNDS; n++) {
            x.key(n);
            sum += x.sign(n, 30);
            sum += x.verify() ? 1 : 0;
            sum += x.hash(n) + x.ball(n % 16) + x.secret(n % 6, n % 16);
        }
        return sum;
    }

    public static void main(String[] args) {
        dearCalls(new ShortVectorSigner());
        long start = made();
        long before = made();
        long measure = before - start;
        ShortVectorSigner x = new ShortVectorSigner();
        long between = made();
        dearCalls(x);
        long forObject = between - before - measure;
        long forCalls = made() - between - measure;
        Due.due("an object takes more bytes than is allowed", forObject > ALLOWED_FOR_OBJECT, false);
        Due.due("calls take more bytes than is allowed", forCalls > ALLOWED_FOR_CALLS, false);
        System.out.println("an object: " + forObject + " bytes, its calls: " + forCalls);
        Due.end();
    }
}
