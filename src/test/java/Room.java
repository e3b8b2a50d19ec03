import com.sun.management.ThreadMXBean;
import java.lang.management.ManagementFactory;

/** Dear runs of 512 calls stay far inside the room that all calls of one run share. */
public final class Room {
    private static final long MOST_BYTES = 1_000_000L;
    private static int wrong;

    private static void feed(ShareLife x, String text) {
        for (int i = 0; i < text.length(); i += 20) {
            int[] w = new int[5];
            for (int j = 0; j < 20; j++) {
                w[j / 4] = w[j / 4] << 8 | (i + j < text.length() ? text.charAt(i + j) : 32);
            }
            x.feed(w[0], w[1], w[2], w[3], w[4]);
        }
    }

    private static ShareLife full() {
        ShareLife x = new ShareLife();
        for (int i = 0; i < 20; i++) {
            x.account(i % 5 == 0 ? ShareLife.NONE : i - 1, 1, 2);
        }
        for (int i = 0; i < 40; i++) {
            x.issue(i % 20, i % 2, i, 1000 + i, 5000, 0);
            x.trade(i % 20, (i + 7) % 20, i % 2, 10, i, i + 1, 0);
        }
        StringBuilder text = new StringBuilder("choice a{most 90 small 9;}choice b{}default b;");
        for (int i = 0; i < 25; i++) {
            text.append("coin 1 for 1;");
        }
        for (int i = 0; i < 16; i++) {
            feed(x, text.toString());
            x.event(i % 2, text.length(), 30 + i, 30 + i, 40 + i, 0);
        }
        for (int i = 0; i < 60; i++) {
            x.choose(i % 16, i % 20, 0, 20, 0);
        }
        for (int i = 0; i < 12; i++) {
            x.hint(0, 0, i + 1, 2, 1, false);
        }
        return x;
    }

    /** Far past too much. */
    private static ShareLife flooded() {
        ShareLife x = new ShareLife();
        for (int i = 0; i < 20; i++) {
            x.account(i == 0 ? ShareLife.NONE : i - 1, 0, 0);
            x.issue(i, 0, 1, 1000000, 0, 0);
            x.trade(i, (i + 1) % 20, 0, 1, 1, 100, 0);
        }
        for (int i = 0; i < 16; i++) {
            feed(x, "give 999 of 0 for 1;");
            x.event(0, 20, 10 + i, 10 + i, 10 + i, 0);
        }
        return x;
    }

    private interface Calls {
        void make(ShareLife x, int i);
    }

    private static void measure(String what, Calls calls) {
        ThreadMXBean bean = (ThreadMXBean) ManagementFactory.getThreadMXBean();
        ShareLife x = full();
        calls.make(x, 0);
        long me = Thread.currentThread().getId();
        long before = bean.getThreadAllocatedBytes(me);
        ShareLife fresh = new ShareLife();
        for (int i = 0; i < 512; i++) {
            calls.make(x, i);
        }
        fresh.status();
        long used = bean.getThreadAllocatedBytes(me) - before;
        if (used > MOST_BYTES) {
            wrong++;
            System.out.println(what + " took " + used + " bytes, due are at most " + MOST_BYTES);
        }
    }

    public static void main(String[] args) {
        measure("own", (x, i) -> x.own(i % 20, 0, i % 60));
        measure("total anew", (x, i) -> {
            x.asof(40000 - i % 2);
            x.total(i % 20, 0, 50);
        });
        measure("stays", (x, i) -> x.stays(i % 16, i % 20, i % 2));
        measure("explain", (x, i) -> x.explain(0, 1, 0, 0, 1 << i % 12, 40));
        measure("faulty events", (x, i) -> {
            x.feed(0x67697665, 0x20202020, 0x20202020, 0x20202020, 0x20202020);
            x.event(0, 20, 5, 5, 5, 0);
        });
        ShareLife bare = new ShareLife();
        measure("events that stand", (x, i) -> {
            feed(bare, "give 1 of 0 for 1;");
            bare.event(0, 18, 5, 5, 5, 0);
        });
        ShareLife flooded = flooded();
        measure("due past too much", (x, i) -> {
            flooded.asof(40000 - i % 2);
            flooded.due(i % 20, 0, 0);
        });
        measure("best", (x, i) -> x.best(i % 16, 100 + i));
        System.out.println(wrong == 0 ? "the room is kept" : wrong + " runs take too much room");
        if (wrong != 0) {
            System.exit(1);
        }
    }
}
