import java.util.ArrayList;
import java.util.List;

/** What tests of calls share: a house, and the telling of each call whose answer is not the one that is due. */
abstract class Checks {
    static final int NONE = ShareLife.NONE;
    static final int LEAST = Integer.MIN_VALUE;
    static final int GREATEST = Integer.MAX_VALUE;

    static ShareLife x = new ShareLife();
    /** The words of the document that are looked at. */
    static String about = "";
    static int wrong;
    /** Each "call status" that was met, the call by its name. */
    static final List<String> met = new ArrayList<>();

    static void due(String call, long got, long want) {
        if (got != want) {
            wrong++;
            System.out.println("\"" + about + "\": " + call + " answered " + got + ", due is " + want);
        }
    }

    /** The call just made is due to have been answered so, with STATUS 0. */
    static void fine(String call, long got, long want) {
        due(call, got, want);
        due("status behind " + call, x.status(), 0);
    }

    static void fine(String call, boolean got) {
        fine(call, got ? 1 : 0, 1);
    }

    /** The call just made is due to have been refused so; its name is what stands ahead of the first blank. */
    static void refused(String call, long got, int status) {
        due(call, got, NONE);
        due("status behind " + call, x.status(), status);
        met.add(call.split(" ")[0] + " " + status);
    }

    static void refused(String call, boolean got, int status) {
        due(call, got ? 1 : 0, 0);
        due("status behind " + call, x.status(), status);
        met.add(call.split(" ")[0] + " " + status);
    }

    static void feed(ShareLife house, String text) {
        for (int i = 0; i < text.length(); i += 20) {
            int[] ints = new int[5];
            for (int j = 0; j < 20; j++) {
                int sign = i + j < text.length() ? text.charAt(i + j) : 32;
                ints[j / 4] = ints[j / 4] << 8 | sign;
            }
            house.feed(ints[0], ints[1], ints[2], ints[3], ints[4]);
        }
    }

    /** An event with its three days on one day, known on day 0. */
    static int event(int paper, int day, String text) {
        return event(paper, day, day, day, text);
    }

    static int event(int paper, int ex, int record, int last, String text) {
        feed(x, text);
        int number = x.event(paper, text.length(), ex, record, last, 0);
        due("status behind event of " + text, x.status(), 0);
        return number;
    }

    /** A text is due to have a fault of a kind at a place, or none (0, NONE). */
    static void fault(String text, int kind, int place) {
        x = new ShareLife();
        feed(x, text);
        int got = x.event(0, text.length(), 5, 5, 5, 0);
        due("event of " + text, got, kind == 0 ? 0 : NONE);
        due("status behind event of " + text, x.status(), kind == 0 ? 0 : 6);
        due("fault(0) of " + text, x.fault(0), kind);
        due("fault(1) of " + text, x.fault(1), place);
    }

    static String times(String text, int n) {
        return text.repeat(n);
    }

    static void end() {
        System.out.println(wrong == 0 ? "all answers are as due" : wrong + " answers are not as due");
        if (wrong != 0) {
            System.exit(1);
        }
    }
}
