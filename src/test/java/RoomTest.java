import java.lang.management.ManagementFactory;
import java.util.Random;

/** No call throws, whatever it is given in whatever state, and 512 calls of any sort need little room. */
public final class RoomTest {
    private static final Random random = new Random(4);
    /** Far under 7.3 million elements, and room for what the Java machine itself lays down at a first use. */
    private static final long MOST_BYTES = 1_000_000;
    private static int wrong = 0;

    private static int any() {
        switch (random.nextInt(6)) {
            case 0: return random.nextInt();
            case 1: return new int[] {Integer.MIN_VALUE, Integer.MAX_VALUE, -1, 0, 1, Integer.MIN_VALUE + 2, Integer.MAX_VALUE - 2}[random.nextInt(7)];
            case 2: return random.nextInt(300) - 20;
            default: return random.nextInt(7) - 1;
        }
    }

    private static void call(FourFlails x, int which, int a, int b, int c) {
        switch (which) {
            case 0: x.man(a, b, c); break;
            case 1: x.set(a, b, c); break;
            case 2: x.told(a, b); break;
            case 3: x.mends(a, b); break;
            case 4: x.feed(a); break;
            case 5: x.text(); break;
            case 6: x.force(a); break;
            case 7: x.round(); break;
            case 8: x.run(a, b); break;
            case 9: x.beat(a, b); break;
            case 10: x.holds(); break;
            case 11: x.bar(a); break;
            case 12: x.order(a); break;
            case 13: x.home(); break;
            case 14: x.turn(); break;
            case 15: x.when(); break;
            case 16: x.stop(a); break;
            case 17: x.fewest(a); break;
            case 18: x.judge(a, b); break;
            case 19: x.slow(a); break;
            case 20: x.drawn(a, b); break;
            case 21: x.once(a, b); break;
            case 22: x.image(); break;
            case 23: x.back(); break;
            case 24: x.count(a); break;
            case 25: x.sheet(a, b, c); break;
            case 26: x.cell(a, b, c); break;
            case 27: x.copy(a, b, c, any(), any()); break;
            case 28: x.men(a, b, c, any()); break;
            default: x.taken(a, b);
        }
    }

    private static void anything() {
        for (int r = 0; r < 300; r++) {
            FourFlails x = new FourFlails();
            for (int k = 0; k < 512; k++) {
                int which = random.nextInt(30);
                if (which == 11 && random.nextInt(8) > 0) which = 0;
                call(x, which, any(), any(), any());
            }
        }
    }

    private static void say(FourFlails x, String s) {
        for (int k = 0; k < s.length(); k++) x.feed(s.charAt(k));
    }

    private static long bytesOf(int which) {
        com.sun.management.ThreadMXBean threads = (com.sun.management.ThreadMXBean) ManagementFactory.getThreadMXBean();
        long me = Thread.currentThread().getId();
        long before = threads.getThreadAllocatedBytes(me);
        FourFlails x = new FourFlails();
        for (int k = 0; k < 5; k++) x.man(k, 24 * k, 53);
        say(x, "gives force*(gap-wet)+ears*(round+tired)-(force<40 or not gap=3);drifts tired-round*(force<9);hurts gap<4 and force-tired*9;");
        x.text();
        x.force(1);
        int times = which == 5 || which == 7 ? 150 : 300;
        for (int k = 0; k < times; k++) {
            if (which == 25) x.sheet(k % 4, 2, 40);
            else if (which == 5) { x.feed('g'); x.text(); }
            else if (which == 7) { x.set(0, k % 12, 9999); x.round(); }
            else if (which == 8 || which == 20) call(x, which, 40, which == 20 ? 40 : 0, 0);
            else call(x, which, 0, 0, 0);
        }
        return threads.getThreadAllocatedBytes(me) - before;
    }

    private static void room() {
        bytesOf(2);
        for (int which = 0; which < 30; which++) {
            long bytes = bytesOf(which);
            if (bytes > MOST_BYTES) {
                wrong++;
                System.out.println("call sort " + which + " takes " + bytes + " bytes in 300 calls");
            }
        }
    }

    public static void main(String[] args) {
        anything();
        room();
        System.out.println(wrong == 0 ? "no call throws, and all find room" : wrong + " sorts of calls take too much");
        if (wrong != 0) System.exit(1);
    }
}
