import java.util.Random;

/** Any arguments in any state: no call throws, and one that is refused answers NONE or false. */
public final class NeverThrows {
    private static final int[] ODD = {-1, 0, 1, 2, 3, 19, 20, 21, 30, 31, 39, 40, 60, 399, 400, 401, 999, 1000, 1001, 9999,
        10000, 40000, 40001, 1000000, 1000001, 100000000, -2, Integer.MAX_VALUE, Integer.MIN_VALUE, 1 << 30, 65536};
    private static final String[] BITS = {"give ", "take ", "coin ", "pay ", "worth ", "fraction ", "when has ", "choice ",
        "default ", "most ", "of ", "for ", "to ", "down", "up", "near", "rata", "small ", "a", "bb", "c", "{", "}", ";", "<",
        ">", "else ", "1 ", "2 ", "0 ", "1000 ", "9999999 ", "12345678 ", "?", "\n"};
    private static final String[] WHOLE = {"give 3 of 0 for 2;", "give 1000 of 1 for 1;", "take 1 for 2;", "coin 9999999 for 1;",
        "pay 3 for 7;", "worth 400 to 1;", "fraction coin 9999999;", "fraction up;", "when has > 10 {give 1 of 0 for 3;}",
        "choice a{most 9 small 3;give 2 of 1 for 3;}", "choice b{coin 3 for 2;}", "default a;"};
    private static int wrong;
    private static long refused;
    private static long answered;

    private static int number(Random r, int bound) {
        return r.nextInt(8) == 0 ? ODD[r.nextInt(ODD.length)] : r.nextInt(40) == 0 ? r.nextInt() : r.nextInt(bound);
    }

    private static int feed(ShareLife x, Random r) {
        StringBuilder text = new StringBuilder();
        String[] from = r.nextInt(3) == 0 ? BITS : WHOLE;
        int bits = r.nextInt(12);
        for (int i = 0; i < bits; i++) {
            text.append(from[r.nextInt(from.length)]);
        }
        for (int i = 0; i < text.length(); i += 20) {
            int[] w = new int[5];
            for (int j = 0; j < 20; j++) {
                w[j / 4] = w[j / 4] << 8 | (i + j < text.length() ? text.charAt(i + j) : 32);
            }
            x.feed(w[0], w[1], w[2], w[3], w[4]);
        }
        return text.length();
    }

    private static long tell(ShareLife x, Random r) {
        // The last day of all: what is told on it never makes a later telling come too late.
        int known = r.nextInt(30) == 0 ? number(r, 40001) : 40000;
        switch (r.nextInt(12)) {
            case 0:
                return x.account(r.nextInt(3) == 0 ? -1 : number(r, 8), number(r, 6), number(r, 6));
            case 1:
            case 2:
                return x.issue(number(r, 6), number(r, 3), number(r, 20), 1 + number(r, 1000000), number(r, 999), known) ? 1 : 0;
            case 3:
                return x.trade(number(r, 6), number(r, 6), number(r, 3), number(r, 900), number(r, 30), 30 + number(r, 20), known);
            case 4:
                return x.feed(r.nextInt(), r.nextInt(), r.nextInt(), r.nextInt(), r.nextInt());
            case 5:
            case 6: {
                int day = number(r, 40);
                int n = feed(x, r);
                return x.event(number(r, 3), n, day, day, day, known);
            }
            case 7:
                return x.choose(number(r, 16), number(r, 6), number(r, 2), number(r, 40), known);
            case 8:
                return r.nextInt(3) == 0 ? x.strike(number(r, 3), number(r, 9), known) ? 1 : 0 : 0;
            case 9:
                return x.option(number(r, 3), number(r, 30), 1 + number(r, 99), 1 + number(r, 99), known);
            case 10:
                return x.name(number(r, 20), number(r, 5), number(r, 40), known) ? 1 : 0;
            default:
                return x.hint(number(r, 3), number(r, 3), number(r, 40), number(r, 1001), number(r, 9), r.nextBoolean());
        }
    }

    private static long ask(ShareLife x, Random r) {
        int a = number(r, 6);
        int b = number(r, 5);
        int c = number(r, 40);
        switch (r.nextInt(21)) {
            case 0:
                return x.own(a, b, c);
            case 1:
                return x.total(a, b, c);
            case 2:
                return x.worth(a, b, c);
            case 3:
                x.coin(a, b % 3, c);
                return 0;
            case 4:
                return x.chosen(b, a);
            case 5:
                return x.stays(b, a, number(r, 3));
            case 6:
                return x.bears(c);
            case 7:
                return x.done(c);
            case 8:
                x.due(c, b, number(r, 4) - 1);
                return 0;
            case 9:
                return x.optionOn(b, c);
            case 10:
                return x.term(b, number(r, 2), c) ? 1 : 0;
            case 11:
                return x.rate(a, number(r, 100001)) ? 1 : 0;
            case 12:
                x.brings(b, number(r, 4) - 1, number(r, 1000001));
                return 0;
            case 13:
                return x.best(b, number(r, 1000001));
            case 14:
                return x.called(number(r, 20), c);
            case 15:
                return x.find(number(r, 5), c, number(r, 4));
            case 16:
                return x.explain(number(r, 3), 1 + number(r, 1000), b, number(r, 3), number(r, 2000), c);
            case 17:
                return x.rivals();
            case 18:
                return x.because(number(r, 4));
            case 19:
                return x.asof(r.nextInt(4) == 0 ? number(r, 40001) : 40000) ? 1 : 0;
            default:
                return x.choices(b) + x.fault(number(r, 2)) + (x.upper() + x.lower() > 0 ? 0 : 0);
        }
    }

    private static void run(int seed) {
        Random r = new Random(seed);
        ShareLife x = new ShareLife();
        String last = "";
        try {
            for (int i = 0; i < 512; i++) {
                boolean tells = r.nextInt(2) == 0;
                last = (tells ? "a telling" : "a question") + " as call " + i;
                long got = tells ? tell(x, r) : ask(x, r);
                if (x.status() < 0 || x.status() > 8) {
                    wrong++;
                    System.out.println("run " + seed + ": status " + x.status());
                }
                refused += x.status() != 0 ? 1 : 0;
                answered += x.status() == 0 && got != 0 ? 1 : 0;
                if (x.lower() < 1) {
                    wrong++;
                    System.out.println("run " + seed + ": lower " + x.lower());
                }
            }
        } catch (RuntimeException thrown) {
            wrong++;
            System.out.println("run " + seed + ": " + last + " threw " + thrown);
        }
    }

    public static void main(String[] args) {
        for (int seed = 0; seed < 1500 && wrong < 20; seed++) {
            run(seed);
        }
        if (refused == 0 || answered == 0) {
            wrong++;
            System.out.println("the runs are too thin");
        }
        System.out.println(wrong == 0 ? "nothing was thrown" : wrong + " runs went wrong");
        if (wrong != 0) {
            System.exit(1);
        }
    }
}
