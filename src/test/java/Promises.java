/** For each promise of the document: ordinary inputs, the edges that it names, and wrong inputs. */
public final class Promises {
    private static final int NONE = ShareLife.NONE;
    private static final int DAYS = 40000;
    private static int wrong;
    private static int promise;
    private static ShareLife x;

    private static void due(String call, long got, long want) {
        if (got != want) {
            wrong++;
            System.out.println("promise " + promise + ": " + call + " answered " + got + ", due is " + want);
        }
    }

    private static void due(String call, boolean got, boolean want) {
        due(call, got ? 1 : 0, want ? 1 : 0);
    }

    /** The latest call is due to have been refused so. */
    private static void refused(String call, long got, int status) {
        due(call, got, NONE);
        due("status of " + call, x.status(), status);
    }

    private static void refused(String call, boolean got, int status) {
        due(call, got, false);
        due("status of " + call, x.status(), status);
    }

    private static void fine(String call, long got, long want) {
        due(call, got, want);
        due("status of " + call, x.status(), 0);
    }

    private static void fine(String call, boolean got) {
        due(call, got, true);
        due("status of " + call, x.status(), 0);
    }

    private static void feed(String text) {
        for (int i = 0; i < text.length(); i += 20) {
            int[] w = new int[5];
            for (int j = 0; j < 20; j++) {
                int sign = i + j < text.length() ? text.charAt(i + j) : 32;
                w[j / 4] = w[j / 4] << 8 | sign;
            }
            x.feed(w[0], w[1], w[2], w[3], w[4]);
        }
    }

    /** An event with its ex, record and last day on one day, known on day 0. */
    private static int event(int paper, int day, String text) {
        feed(text);
        int number = x.event(paper, text.length(), day, day, day, 0);
        due("status of event " + text, x.status(), 0);
        return number;
    }

    private static void fault(String text, int kind, int place) {
        x = new ShareLife();
        feed(text);
        int got = x.event(0, text.length(), 5, 5, 5, 0);
        due("event of " + text, got, kind == 0 ? 0 : NONE);
        due("status of " + text, x.status(), kind == 0 ? 0 : 6);
        due("fault(0) of " + text, x.fault(0), kind);
        due("fault(1) of " + text, x.fault(1), place);
    }

    private static String times(String text, int n) {
        StringBuilder b = new StringBuilder();
        for (int i = 0; i < n; i++) {
            b.append(text);
        }
        return b.toString();
    }

    private static void start(int number) {
        promise = number;
        x = new ShareLife();
    }

    private static void newObject() {
        start(1);
        due("status()", x.status(), 0);
        due("upper()", x.upper(), 0);
        due("lower()", x.lower(), 1);
        due("NONE", ShareLife.NONE, -1);
        due("fault(0)", x.fault(0), NONE);
        due("fault(1)", x.fault(1), NONE);
        refused("event of an empty tape", x.event(0, 1, 0, 0, 0, 0), 2);
        refused("choices(0)", x.choices(0), 1);
        refused("done(0)", x.done(0), 1);
        refused("optionOn(0, 0)", x.optionOn(0, 0), 1);
        refused("called(0, 0)", x.called(0, 0), 5);
        refused("rivals()", x.rivals(), 5);
        fine("account", x.account(NONE, 0, 0), 0);
        fine("issue known on the last day", x.issue(0, 0, 1, 7, 0, DAYS));
        fine("as of 40,000 it counts", x.own(0, 0, 1), 7);
    }

    private static void status() {
        start(2);
        refused("own(0, 0, 0)", x.own(0, 0, 0), 1);
        x.upper();
        x.lower();
        x.fault(0);
        x.feed(0, 0, 0, 0, 0);
        x.status();
        due("status behind calls without one", x.status(), 1);
        x.asof(DAYS + 1);
        due("status behind asof(40001)", x.status(), 2);
        x.asof(3);
        due("status behind asof(3)", x.status(), 0);
    }

    private static void asof() {
        start(3);
        x.account(NONE, 0, 0);
        x.issue(0, 0, 9, 10, 0, 5);
        x.issue(0, 0, 9, 20, 0, 6);
        fine("asof(5)", x.asof(5));
        fine("own as of 5", x.own(0, 0, 9), 10);
        refused("asof(-1)", x.asof(-1), 2);
        refused("asof(40001)", x.asof(40001), 2);
        fine("own as of 5 still", x.own(0, 0, 9), 10);
        fine("asof(0)", x.asof(0));
        fine("own as of 0", x.own(0, 0, 9), 0);
        fine("asof(40000)", x.asof(40000));
        fine("own as of 40000", x.own(0, 0, 9), 30);
    }

    private static void account() {
        start(4);
        fine("a top one", x.account(NONE, 0, 30), 0);
        fine("one under it", x.account(0, 30, 0), 1);
        refused("under none there", x.account(2, 0, 0), 1);
        refused("under itself to be", x.account(-2, 99, 0), 1);
        refused("lead -1", x.account(0, -1, 0), 2);
        refused("lead 31", x.account(0, 31, 0), 2);
        refused("delay -1", x.account(0, 0, -1), 2);
        refused("delay 31", x.account(0, 0, 31), 2);
        for (int i = 2; i < 20; i++) {
            fine("account", x.account(i - 1, 1, 1), i);
        }
        refused("a 21st", x.account(NONE, 0, 0), 3);
        refused("a 21st with a wrong delay", x.account(NONE, 0, 31), 2);
        refused("a 21st under none there", x.account(20, 0, 31), 1);
    }

    private static void issue() {
        start(5);
        x.account(NONE, 0, 0);
        fine("ordinary", x.issue(0, 19, 0, 1000000, 100000000, 3));
        fine("own", x.own(0, 19, 0), 1000000);
        fine("worth", x.worth(0, 19, 0), 100000000);
        refused("no account", x.issue(1, 0, 0, 1, 0, 3), 1);
        refused("no account", x.issue(NONE, 0, 0, 1, 0, 3), 1);
        refused("no paper", x.issue(0, 20, 0, 1, 0, 3), 1);
        refused("no paper", x.issue(0, -1, 0, 1, 0, 3), 1);
        refused("day", x.issue(0, 0, -1, 1, 0, 3), 2);
        refused("day", x.issue(0, 0, 40001, 1, 0, 3), 2);
        refused("shares", x.issue(0, 0, 0, 0, 0, 3), 2);
        refused("shares", x.issue(0, 0, 0, 1000001, 0, 3), 2);
        refused("worth", x.issue(0, 0, 0, 1, -1, 3), 2);
        refused("worth", x.issue(0, 0, 0, 1, 100000001, 3), 2);
        refused("known", x.issue(0, 0, 0, 1, 0, 40001), 2);
        refused("known", x.issue(0, 0, 0, 1, 0, -1), 2);
        refused("known on a day that is gone", x.issue(0, 0, 0, 1, 0, 2), 4);
        for (int i = 1; i < 40; i++) {
            fine("issue", x.issue(0, 1, 7, 1, 2, 3));
        }
        refused("a 41st", x.issue(0, 1, 7, 1, 2, 2), 3);
        fine("own of many", x.own(0, 1, 7), 39);
        fine("worth of many", x.worth(0, 1, 7), 78);
    }

    private static void trade() {
        start(6);
        x.account(NONE, 0, 0);
        x.account(0, 0, 0);
        x.issue(0, 2, 4, 10, 100, 1);
        fine("ordinary", x.trade(0, 1, 2, 3, 4, 5, 1), 0);
        fine("own of the seller", x.own(0, 2, 5), 7);
        fine("own of the buyer", x.own(1, 2, 5), 3);
        fine("ahead of settling", x.own(1, 2, 4), 0);
        refused("like accounts", x.trade(1, 1, 2, 3, 4, 5, 1), 1);
        refused("no seller", x.trade(2, 1, 2, 3, 4, 5, 1), 1);
        refused("no buyer", x.trade(0, -1, 2, 3, 4, 5, 1), 1);
        refused("no paper", x.trade(0, 1, 20, 3, 4, 5, 1), 1);
        refused("shares", x.trade(0, 1, 2, 0, 4, 5, 1), 2);
        refused("shares", x.trade(0, 1, 2, 1000001, 4, 5, 1), 2);
        refused("settled ahead of dealt", x.trade(0, 1, 2, 3, 5, 4, 1), 2);
        refused("dealt", x.trade(0, 1, 2, 3, -1, 4, 1), 2);
        refused("settled", x.trade(0, 1, 2, 3, 5, 40001, 1), 2);
        refused("known", x.trade(0, 1, 2, 3, 4, 5, -1), 2);
        refused("gone", x.trade(0, 1, 2, 3, 4, 5, 0), 4);
        for (int i = 1; i < 40; i++) {
            fine("trade", x.trade(0, 1, 3, 1, 4, 4, 1), i);
        }
        refused("a 41st", x.trade(0, 1, 3, 1, 4, 4, 0), 3);
    }

    private static void feedTape() {
        start(7);
        due("feed", x.feed(0x66726163, 0x74696f6e, 0x20646f77, 0x6e3b2020, 0x20202020), 20);
        for (int i = 2; i <= 20; i++) {
            due("feed", x.feed(0x20202020, 0x20202020, 0x20202020, 0x20202020, 0x20202020), i * 20);
        }
        due("more than 400", x.feed(0, 0, 0, 0, 0), NONE);
        due("no status", x.status(), 0);
        fine("the highest byte comes first", x.event(0, 400, 0, 0, 0, 0), 0);
        due("an empty tape then", x.feed(-1, -1, -1, -1, -1), 20);
        refused("bytes above 127", x.event(0, 20, 0, 0, 0, 0), 6);
        due("fault", x.fault(0), 1);
    }

    private static void events() {
        start(8);
        feed("fraction up; fraction down;");
        refused("no paper", x.event(20, 12, 5, 5, 5, 3), 1);
        refused("no paper", x.event(-1, 12, 5, 5, 5, 3), 1);
        refused("n", x.event(0, -1, 5, 5, 5, 3), 2);
        refused("n", x.event(0, 41, 5, 5, 5, 3), 2);
        refused("record too far behind ex", x.event(0, 12, 5, 16, 16, 3), 2);
        refused("record too far ahead of ex", x.event(0, 12, 16, 5, 16, 3), 2);
        refused("last ahead of record", x.event(0, 12, 5, 5, 4, 3), 2);
        refused("ex", x.event(0, 12, -1, 5, 5, 3), 2);
        refused("record", x.event(0, 12, 5, -1, 5, 3), 2);
        refused("last", x.event(0, 12, 5, 5, 40001, 3), 2);
        refused("known", x.event(0, 12, 5, 5, 5, 40001), 2);
        fine("the tape stands; record 10 behind", x.event(0, 12, 5, 15, 15, 3), 0);
        refused("the tape is empty", x.event(0, 1, 5, 5, 5, 3), 2);
        fine("a text without clauses, record 10 ahead", x.event(0, 0, 15, 5, 5, 3), 1);
        feed("fraction off;");
        refused("a gone day comes ahead of a fault", x.event(0, 13, 5, 5, 5, 2), 4);
        due("no new fault", x.fault(0), 0);
        refused("a fault", x.event(0, 13, 5, 5, 5, 9), 6);
        refused("the tape is empty behind a fault", x.event(0, 1, 5, 5, 5, 3), 2);
        fine("a fault's known day is not told", x.event(0, 0, 5, 5, 5, 3), 2);
        for (int i = 3; i < 16; i++) {
            fine("event", x.event(0, 0, 5, 5, 5, 3), i);
        }
        refused("a 17th", x.event(0, 0, 5, 5, 5, 2), 3);
        due("fault of the latest with 0 or 6", x.fault(0), 0);
    }

    private static void tokenFaults() {
        promise = 9;
        fault("", 0, NONE);
        fault(" \n ", 0, NONE);
        fault("give 1 of 19 for 1000;take 1000 for 1000;coin 0 for 1;pay 9999999 for 1;worth 0 to 0;worth 1000 to 19;", 0, NONE);
        fault("fraction up;fraction near;fraction coin 0;when has<0{}else{}when has > 1 { }", 0, NONE);
        fault("give1of0for1;", 0, NONE);
        fault("choice az{}default az;", 0, NONE);
        fault("choice z{}default z;", 0, NONE);
        fault("choice a{most 0 rata;}choice abcdefgh{most 1 small 0;}choice choice{}default a;", 0, NONE);
        fault("Give 1 of 0 for 1;", 1, 0);
        fault("give +1 of 0 for 1;", 1, 5);
        fault("give 12345678 of 0 for 1;", 1, 5);
        fault("give 1234567 of 0 for 1;", 4, 5);
        fault("coin 00000001 for 1;", 1, 5);
        fault("coin 0000001 for 0000001;", 0, NONE);
        fault("coin 1 for 1;\t", 1, 13);
        fault("coin 1 for 1;" + (char) 0, 1, 13);
        fault("when has = 1 {}", 1, 9);
        fault("choice A {}", 1, 7);
        fault("xyz", 2, 0);
        fault("; ", 2, 0);
        fault("}", 2, 0);
        fault("7", 2, 0);
        fault("else { }", 2, 0);
        fault("has", 2, 0);
        fault("gives 1 of 0 for 1;", 2, 0);
        fault("give one of 0 for 1;", 2, 5);
        fault("give 1 for 1;", 2, 7);
        fault("give 1 of 0 for 1", 2, 17);
        fault("give 1 of 0 for 1  ", 2, 19);
        fault("give", 2, 4);
        fault("take 1 of 0 for 1;", 2, 7);
        fault("coin 1 for 1 coin", 2, 13);
        fault("fraction off;", 2, 9);
        fault("fraction coin;", 2, 13);
        fault("fraction 1;", 2, 9);
        fault("fraction < ;", 2, 9);
        fault("when has 1 {}", 2, 9);
        fault("when < 1 {}", 2, 5);
        fault("when has < x {}", 2, 11);
        fault("when has < 1 ;", 2, 13);
        fault("when has < 1 { coin 1 for 1;", 2, 28);
        fault("when has < 1 { } else coin 1 for 1;", 2, 22);
        fault("when has < 1 { } else { } else { }", 2, 26);
        fault("choice a { } else { }", 2, 13);
        fault("choice { }", 2, 7);
        fault("choice abcdefghi { }", 2, 7);
        fault("choice 1 { }", 2, 7);
        fault("choice a ;", 2, 9);
        fault("choice a { } default ;", 2, 21);
        fault("choice a { } default abcdefghi;", 2, 21);
        fault("choice a { } default a", 2, 22);
        fault("choice a { most 5; }", 2, 17);
        fault("choice a { most 5 small; }", 2, 23);
        fault("choice a { most rata; }", 2, 16);
        fault("choice a { } }", 2, 13);
    }

    private static void limitFaults() {
        promise = 9;
        fault(times("pay 1 for 1;", 30), 0, NONE);
        fault(times("pay 1 for 1;", 30) + "pay 1 for 1;", 3, 360);
        fault(times("pay 1 for 1;", 30) + "x", 2, 360);
        fault(times("pay 1 for 1;", 30) + "most", 3, 360);
        fault("when has<1{when has<1{when has<1{}}}", 0, NONE);
        fault("when has<1{when has<1{when has<1{pay 1 for 1;}}}", 3, 33);
        fault("when has<1{when has<1{when has<1{}else{pay 1 for 1;}}}", 3, 39);
        fault("choice a{when has<1{when has<1{most 1 rata;}}}", 3, 31);
        fault("choice a{when has<1{when has<1{}}}", 0, NONE);
        fault("choice a{}choice b{}choice c{}choice d{}", 3, 37);
        fault("choice a{}choice b{}choice c{}choice a{}", 3, 37);
        fault("choice a{}choice b{}choice c{}choice abcdefghi{}", 2, 37);
        fault("give 0 of 0 for 1;", 4, 5);
        fault("give 1001 of 0 for 1;", 4, 5);
        fault("give 1 of 20 for 1;", 4, 10);
        fault("give 1 of 0 for 0;", 4, 16);
        fault("give 1 of 0 for 1001;", 4, 16);
        fault("take 0 for 1;", 4, 5);
        fault("take 1001 for 1001;", 4, 5);
        fault("take 3 for 2;", 4, 11);
        fault("take 3 for 1001;", 4, 11);
        fault("coin 1 for 0;", 4, 11);
        fault("pay 1 for 1001;", 4, 10);
        fault("worth 1001 to 0;", 4, 6);
        fault("worth 1 to 20;", 4, 11);
        fault("choice a{}choice a{}", 5, 17);
        fault("default a;choice a{}", 5, 8);
        fault("choice a{}default b;", 5, 18);
        fault("choice a{}default a;default a;", 5, 20);
        fault("choice a{}default a;when has<1{default a;}", 5, 31);
        fault("when has<1{choice a{}}", 6, 11);
        fault("choice a{choice b{}}", 6, 9);
        fault("choice a{}when has<1{default a;}", 6, 21);
        fault("choice a{default a;}", 6, 9);
        fault("most 1 rata;", 6, 0);
        fault("when has<1{most 1 rata;}", 6, 11);
        fault("choice a{when has<1{most 1 rata;}}", 6, 20);
        fault("choice a{most 1 rata;pay 1 for 1;most 1 rata;}", 6, 33);
        fault("choice a{most 1 rata;}choice b{most 1 rata;}", 0, NONE);
        fault("take 1 for 1;choice a{take 1 for 1;}", 6, 22);
        fault("when has<1{take 1 for 1;}choice a{when has<1{take 1 for 1;}}", 6, 45);
        fault("choice a{take 1 for 1;}take 1 for 1;", 6, 23);
        fault("choice a{}when has<1{}else{take 1 for 1;}choice b{take 1 for 1;}", 6, 50);
        fault("choice a{take 1 for 1;}choice b{take 1 for 1;}", 0, NONE);
        fault("take 1 for 1;choice a{}take 1 for 1;", 0, NONE);
    }

    private static void faults() {
        tokenFaults();
        limitFaults();
        due("fault(2)", x.fault(2), NONE);
        due("fault(-1)", x.fault(-1), NONE);
        x.own(0, 0, -1);
        due("no status of its own", x.status(), 1);
        x.fault(0);
        due("no status of its own", x.status(), 1);
    }

    private static void choices() {
        start(10);
        event(0, 5, "coin 1 for 1;");
        event(0, 5, "choice a{}");
        event(0, 5, "choice a{}choice b{}choice c{}");
        fine("none", x.choices(0), 0);
        fine("one", x.choices(1), 1);
        fine("three", x.choices(2), 3);
        refused("no such event", x.choices(3), 1);
        refused("no such event", x.choices(-1), 1);
    }

    private static void choose() {
        start(11);
        x.account(NONE, 0, 0);
        x.issue(0, 0, 1, 10, 0, 2);
        feed("choice a{coin 1 for 1;}choice b{coin 2 for 1;}");
        x.event(0, 46, 5, 5, 5, 2);
        fine("coin without a choice", x.coin(0, 0, 5), 0);
        fine("choose", x.choose(0, 0, 1, 5, 2), 0);
        fine("coin of the choice", x.coin(0, 0, 5), 20);
        refused("no event", x.choose(1, 0, 0, 5, 2), 1);
        refused("no account", x.choose(0, 1, 0, 5, 2), 1);
        refused("no choice", x.choose(0, 0, 2, 5, 2), 1);
        refused("no choice", x.choose(0, 0, -1, 5, 2), 1);
        refused("day", x.choose(0, 0, 0, -1, 2), 2);
        refused("day", x.choose(0, 0, 0, 40001, 2), 2);
        refused("known", x.choose(0, 0, 0, 5, 40001), 2);
        refused("gone", x.choose(0, 0, 0, 5, 1), 4);
        for (int i = 1; i < 60; i++) {
            fine("choose", x.choose(0, 0, 0, 6, 2), i);
        }
        refused("a 61st", x.choose(0, 0, 0, 6, 1), 3);
        fine("coin: those were not in time", x.coin(0, 0, 5), 20);
    }

    private static void strike() {
        start(12);
        x.account(NONE, 0, 0);
        x.account(NONE, 0, 0);
        x.issue(0, 0, 1, 10, 0, 1);
        x.trade(0, 1, 0, 4, 2, 2, 1);
        feed("choice a{coin 1 for 1;}");
        x.event(0, 23, 5, 5, 5, 1);
        x.choose(0, 0, 0, 5, 1);
        fine("coin", x.coin(0, 0, 5), 6);
        refused("what -1", x.strike(-1, 0, 9), 2);
        refused("what 3, no such one", x.strike(3, 7, 9), 2);
        refused("no trade", x.strike(0, 1, 9), 1);
        refused("no event", x.strike(1, 1, 9), 1);
        refused("no choice", x.strike(2, 1, 9), 1);
        refused("no choice", x.strike(2, -1, 40001), 1);
        refused("known", x.strike(0, 0, 40001), 2);
        refused("gone", x.strike(0, 0, 0), 4);
        fine("strike the trade", x.strike(0, 0, 3));
        fine("coin without the trade", x.coin(0, 0, 5), 10);
        refused("struck already", x.strike(0, 0, 3), 4);
        fine("strike the choice", x.strike(2, 0, 4));
        fine("coin without the choice", x.coin(0, 0, 5), 0);
        x.asof(3);
        fine("as of 3 the choice counts", x.coin(0, 0, 5), 10);
        x.asof(2);
        fine("as of 2 the trade counts", x.coin(0, 0, 5), 6);
        fine("strike the event", x.strike(1, 0, 5));
        x.asof(40000);
        refused("the event does not count", x.stays(0, 0, 0), 7);
        refused("a day gone by strikes", x.issue(0, 0, 1, 1, 1, 4), 4);
        refused("struck already, even as of a day ahead", x.strike(1, 0, 5), 4);
    }

    private static void own() {
        start(13);
        x.account(NONE, 0, 0);
        x.account(0, 0, 0);
        x.account(0, 0, 0);
        x.account(2, 0, 0);
        x.issue(0, 0, 5, 1, 0, 0);
        x.issue(1, 0, 5, 1, 0, 0);
        x.issue(3, 0, 5, 1, 0, 0);
        event(0, 5, "give 2 of 1 for 3;");
        fine("issues ahead of events", x.own(0, 1, 5), 1);
        fine("of like rests the one ahead", x.own(1, 1, 5), 1);
        fine("none left", x.own(3, 1, 5), 0);
        fine("day ahead", x.own(0, 1, 4), 0);
        refused("no account", x.own(4, 0, 0), 1);
        refused("no paper", x.own(0, 20, 0), 1);
        refused("day", x.own(0, 0, -1), 2);
        refused("day", x.own(0, 0, 40001), 2);
        x.issue(3, 2, 5, 1000000, 0, 0);
        event(2, 6, "give 999 of 2 for 1;");
        fine("1,000,000,000 is not too much", x.own(3, 2, 6), 1000000000);
        x.issue(3, 2, 7, 1, 0, 0);
        fine("an issue alone does not make it so", x.own(3, 2, 7), 1000000001);
        event(0, 8, "");
        refused("behind the next event it is", x.own(0, 0, 8), 8);
        fine("ahead of it not", x.own(3, 2, 7), 1000000001);
        refused("from then on", x.own(0, 19, 40000), 8);
    }

    private static void fractions() {
        promise = 13;
        String[] rules = {"", "fraction down;", "fraction up;", "fraction near;", "fraction coin 101;"};
        int[] coins = {33, 67, 0, 33, 67, 0};
        for (int r = 0; r < rules.length; r++) {
            for (int shares = 1; shares <= 6; shares++) {
                x = new ShareLife();
                x.account(NONE, 0, 0);
                x.issue(0, 0, 1, shares, 0, 0);
                event(0, 2, rules[r] + "give 1 of 1 for 3;");
                int third = shares % 3;
                int want = shares / 3 + (r == 2 && third > 0 || r == 3 && third == 2 ? 1 : 0);
                fine(rules[r] + " of " + shares, x.own(0, 1, 2), want);
                fine("coin by " + rules[r] + " of " + shares, x.coin(0, 0, 2), r == 4 ? coins[shares - 1] : 0);
            }
        }
        x = new ShareLife();
        x.account(NONE, 0, 0);
        x.issue(0, 0, 1, 1, 0, 0);
        event(0, 2, "fraction near;give 1 of 1 for 2;give 1 of 1 for 3;fraction down;give 1 of 2 for 2;");
        fine("a half goes up by near", x.own(0, 1, 2), 1);
        fine("the rule done latest", x.own(0, 2, 2), 0);
    }

    private static void takes() {
        promise = 13;
        x = new ShareLife();
        x.account(NONE, 0, 0);
        x.account(0, 0, 0);
        x.issue(0, 0, 1, 3, 0, 0);
        x.issue(1, 0, 1, 4, 0, 0);
        event(0, 2, "take 1 for 2;take 1 for 3;");
        fine("3 and 2 go at once", x.total(0, 0, 2), 2);
        fine("parted", x.own(0, 0, 2), 1);
        fine("parted", x.own(1, 0, 2), 1);
        event(0, 3, "take 1 for 1;take 1 for 2;give 1 of 0 for 2;");
        fine("together at most T; gives count behind", x.total(0, 0, 3), 1);
    }

    private static void manyUnderOne() {
        promise = 13;
        x = new ShareLife();
        x.account(NONE, 0, 0);
        x.issue(0, 0, 1, 1, 0, 0);
        for (int i = 1; i < 20; i++) {
            x.account(0, 0, 0);
            x.issue(i, 0, 1, 1, 0, 0);
        }
        event(0, 2, "give 13 of 1 for 20;");
        for (int i = 0; i < 20; i++) {
            fine("nineteen under one, account " + i, x.own(i, 1, 2), i < 13 ? 1 : 0);
        }
        event(0, 3, times("coin 1 for 1;", 30));
        fine("thirty clauses", x.coin(19, 0, 3), 30);
        fine("thirty clauses", x.brings(1, NONE, 2), 60);
        x.trade(0, 1, 0, 1, 1, 4, 0);
        fine("thirty clauses", x.due(0, 1, NONE), 30);
    }

    private static void total() {
        start(14);
        x.account(NONE, 0, 0);
        x.account(0, 0, 0);
        x.account(1, 0, 0);
        x.account(NONE, 0, 0);
        for (int i = 0; i < 4; i++) {
            x.issue(i, 3, 2, 1 << i, 0, 0);
        }
        fine("of all under", x.total(0, 3, 2), 7);
        fine("of the middle", x.total(1, 3, 2), 6);
        fine("of the lowest", x.total(2, 3, 2), 4);
        fine("of another top one", x.total(3, 3, 2), 8);
        fine("the day ahead", x.total(0, 3, 1), 0);
        event(3, 4, "when has > 7 { coin 1 for 1; } else { coin 3 for 1; }");
        fine("when has goes by the total of each top one", x.coin(3, 0, 4), 8);
        fine("else", x.coin(2, 0, 4), 12);
        refused("no account", x.total(4, 0, 0), 1);
        refused("no paper", x.total(0, -1, 0), 1);
        refused("day", x.total(0, 0, 40001), 2);
        x.issue(2, 5, 4, 1000000, 0, 0);
        event(5, 4, "give 1000 of 6 for 1; give 1 of 6 for 1000;");
        refused("too much in the total of those above", x.total(0, 0, 4), 8);
    }

    private static void worth() {
        start(15);
        x.account(NONE, 0, 0);
        x.account(0, 0, 0);
        x.issue(0, 0, 1, 3, 100, 0);
        x.issue(1, 0, 1, 5, 999, 0);
        x.trade(0, 1, 0, 1, 2, 2, 0);
        fine("of the shares that went, rounded down", x.worth(0, 0, 2), 67);
        fine("to the buyer", x.worth(1, 0, 2), 1032);
        event(0, 3, "worth 333 to 1; worth 500 to 2;");
        fine("67 * 333 / 1000", x.worth(0, 1, 3), 22);
        fine("half of what is there then", x.worth(0, 2, 3), 22);
        fine("what is left", x.worth(0, 0, 3), 23);
        event(0, 4, "give 1 of 3 for 8; give 1 of 4 for 1; take 1 for 1;");
        fine("to the first paper of which the account got any", x.worth(0, 4, 4), 23);
        fine("that is another one for the other", x.worth(1, 3, 4), x.worth(1, 0, 3));
        fine("nothing is left", x.worth(0, 0, 4), 0);
        fine("nothing realized", x.coin(0, 1, 4), 0);
        refused("no account", x.worth(2, 0, 0), 1);
        refused("no paper", x.worth(0, 20, 0), 1);
        refused("day", x.worth(0, 0, -1), 2);
    }

    private static void worthOfChoices() {
        promise = 15;
        x = new ShareLife();
        x.account(NONE, 0, 0);
        x.account(0, 0, 0);
        x.account(NONE, 0, 0);
        x.issue(0, 0, 1, 4, 1000, 0);
        x.issue(1, 0, 1, 4, 1000, 0);
        x.issue(2, 0, 1, 4, 1000, 0);
        event(0, 5, "choice a{worth 100 to 1;}choice b{worth 200 to 2;}default b;");
        x.choose(0, 1, 0, 5, 0);
        fine("of those with own shares in it", x.worth(1, 1, 5), 100);
        fine("not of others", x.worth(0, 1, 5), 0);
        fine("of the other choice", x.worth(0, 2, 5), 200);
        fine("of the other top account", x.worth(2, 2, 5), 200);
        event(0, 6, "choice a{worth 100 to 3;}worth 100 to 4;");
        fine("nothing chosen", x.worth(1, 3, 6), 0);
        fine("outside of all", x.worth(1, 4, 6), 90);
    }

    private static void coin() {
        start(16);
        x.account(NONE, 0, 0);
        x.account(0, 0, 0);
        x.issue(0, 0, 1, 1, 50, 0);
        x.issue(1, 0, 1, 2, 70, 0);
        event(0, 2, "coin 10 for 3; pay 7 for 2;");
        fine("10 came, 10 went, each parted alike", x.coin(0, 0, 2), 0);
        event(0, 3, "pay 1 for 3;");
        fine("below 0", x.coin(1, 0, 3), -1);
        fine("the other one", x.coin(0, 0, 3), 0);
        event(0, 4, "take 1 for 1; coin 9999999 for 1;");
        fine("realized", x.coin(1, 1, 4), 70);
        fine("realized", x.coin(0, 1, 4), 50);
        fine("not ahead", x.coin(0, 1, 3), 0);
        fine("coin", x.coin(1, 0, 4), 19999997);
        refused("no account", x.coin(2, 0, 0), 1);
        refused("what", x.coin(0, 2, 0), 2);
        refused("what", x.coin(0, -1, 0), 2);
        refused("day", x.coin(0, 0, 40001), 2);
        x.issue(0, 1, 5, 1000000, 0, 0);
        event(1, 6, "give 1000 of 2 for 1;give 1 of 2 for 1;");
        refused("too much", x.coin(0, 0, 6), 8);
        fine("a day ahead", x.coin(0, 1, 5), 50);
    }

    private static void greatCoin() {
        promise = 16;
        x = new ShareLife();
        x.account(NONE, 0, 0);
        x.account(0, 0, 0);
        x.issue(0, 0, 1, 999999, 0, 0);
        x.issue(1, 0, 1, 1, 0, 0);
        event(0, 2, "give 999 of 0 for 1;");
        event(0, 3, "coin 9999999 for 1;");
        fine("a great sum is parted", x.coin(0, 0, 3), 9999999L * 999999000L);
        fine("a great sum is parted", x.coin(1, 0, 3), 9999999L * 1000L);
    }

    private static void chosen() {
        start(17);
        x.account(NONE, 1, 2);
        x.account(0, 1, 3);
        x.account(1, 9, 9);
        feed("choice a{}choice b{}default b;");
        x.event(0, 30, 10, 10, 20, 0);
        fine("the default", x.chosen(0, 2), 1);
        x.choose(0, 2, 0, 15, 0);
        fine("15 and 3 and 2 is in time", x.chosen(0, 2), 0);
        x.choose(0, 2, 1, 15, 0);
        fine("of one day the later one", x.chosen(0, 2), 1);
        x.choose(0, 2, 0, 14, 0);
        fine("said ahead of that", x.chosen(0, 2), 1);
        x.choose(0, 2, 0, 16, 0);
        fine("not in time", x.chosen(0, 2), 1);
        x.choose(0, 1, 0, 18, 0);
        fine("by its hand's delay alone", x.chosen(0, 1), 0);
        x.choose(0, 0, 0, 18, 0);
        fine("a top one's own delay", x.chosen(0, 0), 0);
        x.choose(0, 0, 1, 19, 0);
        fine("not in time", x.chosen(0, 0), 0);
        event(0, 10, "choice a{}");
        refused("without a default", x.chosen(1, 0), 5);
        event(0, 10, "");
        refused("without choices", x.chosen(2, 0), 5);
        refused("no event", x.chosen(3, 0), 1);
        refused("no account", x.chosen(0, 3), 1);
        x.choose(1, 1, 0, 5, 2);
        x.strike(1, 1, 3);
        refused("struck, but said", x.chosen(1, 1), 7);
        refused("struck, and none is said: that comes first", x.chosen(1, 0), 5);
        x.strike(2, 7, 3);
        refused("what was said is struck too", x.chosen(1, 1), 5);
        x.strike(1, 0, 4);
        refused("struck, but with a default", x.chosen(0, 2), 7);
        feed("choice a{}");
        x.event(0, 10, 5, 5, 5, 9);
        feed("choice a{}default a;");
        x.event(0, 20, 5, 5, 5, 9);
        x.choose(3, 0, 0, 1, 9);
        x.asof(8);
        refused("neither known then, nor what was said", x.chosen(3, 0), 5);
        refused("not known then, but with a default", x.chosen(4, 0), 7);
        refused("no account comes ahead of all", x.chosen(3, 3), 1);
    }

    private static void stays() {
        start(18);
        for (int i = 0; i < 4; i++) {
            x.account(NONE, 0, 0);
        }
        x.account(1, 0, 0);
        x.issue(0, 0, 1, 10, 0, 0);
        x.issue(1, 0, 1, 5, 0, 0);
        x.issue(4, 0, 1, 6, 0, 0);
        x.issue(2, 0, 1, 4, 0, 0);
        x.issue(3, 0, 1, 3, 0, 0);
        event(0, 5, "choice a{most 14 rata;}choice b{most 1 rata;}default b;");
        for (int i = 0; i < 5; i++) {
            x.choose(0, i, 0, 5, 0);
        }
        long[] want = {5, 3, 2, 1, 3};
        for (int i = 0; i < 5; i++) {
            fine("by rata, account " + i, x.stays(0, i, 0), want[i]);
        }
        fine("what is cut stays in the default, which is not cut again", x.stays(0, 0, 1), 5);
        fine("below a top account", x.stays(0, 4, 1), 3);
        event(0, 5, "choice a{most 14 small 4;}");
        for (int i = 0; i < 5; i++) {
            x.choose(1, i, 0, 5, 0);
        }
        want = new long[] {3, 2, 4, 3, 2};
        for (int i = 0; i < 5; i++) {
            fine("by small, account " + i, x.stays(1, i, 0), want[i]);
        }
        event(0, 5, "choice a{most 3 small 4;}default a;");
        want = new long[] {0, 0, 0, 3, 0};
        for (int i = 0; i < 5; i++) {
            fine("a small one that does not fit goes by rata, account " + i, x.stays(2, i, 0), want[i]);
        }
        event(0, 5, "choice a{most 28 rata;}default a;");
        fine("not above the number", x.stays(3, 0, 0), 10);
        refused("no event", x.stays(4, 0, 0), 1);
        refused("no account", x.stays(0, 5, 0), 1);
        refused("no choice", x.stays(1, 0, 1), 1);
        refused("no choice", x.stays(1, 0, -1), 1);
        x.strike(1, 1, 3);
        refused("struck", x.stays(1, 0, 0), 7);
        x.issue(0, 1, 3, 1000000, 0, 3);
        event3(1, 3, "give 1000 of 1 for 1;");
        refused("too much ahead of it", x.stays(0, 0, 0), 8);
    }

    private static void event3(int paper, int day, String text) {
        feed(text);
        x.event(paper, text.length(), day, day, day, 3);
        due("status of event " + text, x.status(), 0);
    }

    private static void cuts() {
        promise = 18;
        x = new ShareLife();
        x.account(NONE, 0, 0);
        x.account(NONE, 0, 0);
        x.issue(0, 0, 1, 10, 0, 0);
        x.issue(1, 0, 1, 10, 0, 0);
        event(0, 5, "choice a{most 4 rata;coin 5 for 1;}choice b{most 10 rata;coin 1 for 1;}default b;coin 1 for 10;");
        x.choose(0, 0, 0, 5, 0);
        fine("cut from a", x.stays(0, 0, 0), 4);
        fine("come to b behind all cuts", x.stays(0, 0, 1), 6);
        fine("b by what was chosen ahead of all cuts", x.stays(0, 1, 1), 10);
        fine("coin by the t behind cuts, and outside by the total", x.coin(0, 0, 5), 27);
        event(0, 6, "choice a{most 0 rata;fraction up;take 1 for 1;}give 1 of 1 for 3;default a;");
        fine("cut to nothing: as nothing", x.stays(1, 0, 0), 0);
        fine("a choice without shares does nothing", x.own(0, 0, 6), 10);
        fine("nor its rule", x.own(0, 1, 6), 3);
    }

    private static void bears() {
        start(19);
        x.account(NONE, 2, 4);
        x.account(0, 5, 5);
        x.account(1, 1, 3);
        x.account(2, 0, 30);
        feed("choice a{}");
        x.event(0, 10, 10, 10, 30, 1);
        x.choose(0, 3, 0, 18, 1);
        refused("in time: delays are 12", x.bears(0), 5);
        x.choose(0, 3, 0, 22, 1);
        fine("good, not in time: the first with more delay than lead", x.bears(1), 2);
        x.choose(0, 2, 0, 22, 1);
        fine("the way begins with its hand", x.bears(2), 0);
        x.choose(0, 0, 0, 28, 1);
        fine("a top one bears its own", x.bears(3), 0);
        x.choose(0, 0, 0, 29, 1);
        refused("not good", x.bears(4), 5);
        x.choose(0, 0, 0, 26, 1);
        refused("in time", x.bears(5), 5);
        x.choose(0, 3, 0, 23, 1);
        refused("not good by a day", x.bears(6), 5);
        refused("no choice", x.bears(7), 1);
        refused("no choice", x.bears(-1), 1);
        x.strike(2, 3, 2);
        refused("struck", x.bears(3), 7);
        x.strike(2, 5, 2);
        refused("struck, but in time: that none bears it comes first", x.bears(5), 5);
        x.strike(2, 4, 2);
        refused("struck, but not good", x.bears(4), 5);
        x.asof(0);
        refused("not known", x.bears(1), 7);
        refused("not known, but in time", x.bears(0), 5);
        x.asof(1);
        fine("known, and not struck yet", x.bears(3), 0);
        x.strike(1, 0, 3);
        x.asof(3);
        refused("its event is struck", x.bears(1), 7);
        refused("its event is struck, but in time", x.bears(0), 5);
    }

    private static void done() {
        start(20);
        x.account(NONE, 0, 0);
        x.account(NONE, 0, 0);
        x.issue(0, 0, 5, 10, 0, 1);
        x.trade(0, 1, 0, 10, 1, 5, 1);
        x.trade(1, 0, 0, 10, 1, 5, 1);
        x.trade(1, 0, 0, 1, 1, 5, 1);
        x.trade(0, 1, 0, 10, 1, 4, 1);
        fine("issues of the day are ahead", x.done(0), 1);
        fine("trades of a day by numbers", x.done(1), 1);
        fine("none left", x.done(2), 0);
        fine("a day ahead", x.done(3), 0);
        refused("no trade", x.done(4), 1);
        refused("no trade", x.done(-1), 1);
        x.strike(0, 0, 2);
        refused("struck", x.done(0), 7);
        fine("it fails then", x.done(1), 0);
        x.asof(0);
        refused("not known", x.done(2), 7);
        x.asof(40000);
        x.issue(0, 1, 3, 1000000, 0, 3);
        event3(1, 5, "give 1000 of 1 for 1;");
        refused("too much up to the end of that day", x.done(1), 8);
        fine("ahead of that", x.done(3), 0);
    }

    private static void dues() {
        start(21);
        x.account(NONE, 0, 0);
        x.account(NONE, 0, 0);
        x.issue(0, 0, 1, 100, 0, 0);
        int[][] days = {{9, 13}, {9, 12}, {10, 12}, {10, 13}, {12, 12}, {0, 13}};
        for (int[] d : days) {
            x.trade(0, 1, 0, 7, d[0], d[1], 0);
        }
        feed("fraction coin 9;give 1 of 0 for 2;give 1 of 3 for 2;give 1 of 0 for 1;pay 2 for 1;coin 1 for 7;");
        x.event(0, 95, 10, 12, 12, 0);
        long[] sides = {1, 0, -1, 0, -1, 1};
        for (int i = 0; i < sides.length; i++) {
            fine("own paper", x.due(i, 0, 0), sides[i] * 10);
            fine("another paper", x.due(i, 0, 3), sides[i] * 3);
            fine("pennies", x.due(i, 0, NONE), sides[i] * (4 + 4 - 14 + 1));
        }
        fine("none of it", x.due(0, 0, 5), 0);
        refused("no trade", x.due(6, 0, 0), 1);
        refused("no event", x.due(0, 1, 0), 1);
        refused("no paper", x.due(0, 0, 20), 1);
        refused("no paper", x.due(0, 0, -2), 1);
        event(1, 12, "coin 1 for 1;");
        refused("of another paper", x.due(0, 1, NONE), 7);
        event(0, 12, "choice a{}coin 1 for 1;");
        refused("has choices", x.due(0, 2, NONE), 7);
        x.trade(1, 0, 0, 1000, 9, 13, 0);
        refused("failed", x.due(6, 0, 0), 7);
        event(0, 12, "coin 1 for 1; when has > 6 { coin 1 for 1; } when has > 7 { coin 9 for 1; }");
        fine("as a top account with as many", x.due(0, 3, NONE), 14);
        x.strike(1, 3, 2);
        refused("the event is struck", x.due(0, 3, NONE), 7);
        x.strike(0, 0, 3);
        refused("the trade is struck", x.due(0, 0, NONE), 7);
        x.issue(0, 1, 3, 1000000, 0, 3);
        event3(1, 13, "give 1000 of 1 for 1;");
        refused("too much", x.due(5, 0, 0), 8);
        refused("that it failed comes first", x.due(6, 0, 0), 7);
        x.trade(1, 0, 0, 1000000, 9, 20, 3);
        x.trade(0, 1, 0, 1, 9, 20, 3);
        refused("it failed behind too much", x.due(7, 0, 0), 7);
        refused("it is done behind too much", x.due(8, 0, 0), 8);
        refused("whether it is done is not told behind too much", x.done(7), 8);
    }

    /** Trades behind several events that make too much: whether they fail goes by shares that are told no more. */
    private static void duesPastTooMuch() {
        start(21);
        x.account(NONE, 0, 0);
        x.account(0, 0, 0);
        x.account(0, 0, 0);
        x.account(NONE, 0, 0);
        x.issue(0, 0, 1, 999995, 0, 0);
        x.issue(1, 0, 1, 2, 0, 0);
        x.issue(2, 0, 1, 3, 0, 0);
        event(0, 10, "give 999 of 0 for 1; coin 9999999 for 1;");
        event(0, 11, "give 999 of 0 for 1; coin 9999999 for 1;");
        for (int day = 12; day <= 14; day++) {
            event(0, day, "take 999 for 1000;");
        }
        // from, to, day, shares, and whether it fails by what there is: 2,000 on day 13, 2 on day 14, 0 and 1,000 then
        int[][] trades = {{1, 2, 13, 2001, 7}, {1, 2, 13, 2000, 8}, {2, 1, 13, 5001, 7}, {2, 1, 13, 2000, 8},
            {1, 2, 14, 3, 7}, {1, 2, 15, 1, 7}, {0, 1, 15, 1001, 7}, {0, 1, 15, 1000, 8}, {1, 0, 15, 1000, 8}};
        for (int i = 0; i < trades.length; i++) {
            x.trade(trades[i][0], trades[i][1], 0, trades[i][3], 0, trades[i][2], 0);
            refused("trade " + i, x.due(i, 0, 0), trades[i][4]);
        }
        for (int day = 16; day < 25; day++) {
            event(0, day, "give 1000 of 0 for 1;give 1000 of 0 for 1;give 1000 of 0 for 1;coin 9999999 for 1;");
        }
        x.trade(3, 0, 0, 1, 0, 30, 0);
        x.trade(0, 3, 0, 1000000, 0, 30, 0);
        x.trade(3, 1, 0, 1000000, 0, 30, 0);
        x.trade(3, 1, 0, 1, 0, 30, 0);
        refused("none still", x.due(9, 0, 0), 7);
        refused("far more than enough", x.due(10, 0, 0), 8);
        refused("what came", x.due(11, 0, 0), 8);
        refused("none is left of it", x.due(12, 0, 0), 7);
        fine("ahead of too much all is told", x.own(1, 0, 9), 2);
        fine("ahead of too much all is told", x.coin(0, 0, 9), 0);
        greatParts();
    }

    /** 162,000,081,000,000 shares under one hand, parted to the share. */
    private static void greatParts() {
        x = new ShareLife();
        x.account(NONE, 0, 0);
        for (int i = 1; i < 20; i++) {
            x.account(0, 0, 0);
            x.issue(i, 0, 1, i < 19 ? 1000000 : 9, 0, 0);
        }
        event(0, 10, "give 999 of 0 for 1;");
        event(0, 11, "give 999 of 0 for 1;");
        event(0, 12, "give 8 of 0 for 1;");
        event(0, 13, "take 999 for 1000;");
        event(0, 14, "take 999 for 1000;");
        x.trade(19, 1, 0, 82, 0, 15, 0);
        x.trade(19, 1, 0, 81, 0, 15, 0);
        refused("82 of 81", x.due(0, 0, 0), 7);
        refused("81 of 81", x.due(1, 0, 0), 8);
        x = new ShareLife();
        x.account(NONE, 0, 0);
        x.account(NONE, 0, 0);
        x.issue(0, 0, 1, 1000000, 0, 0);
        event(0, 10, "give 999 of 0 for 1;");
        event(0, 11, "give 999 of 0 for 1;give 999 of 0 for 1;");
        for (int day = 12; day <= 14; day++) {
            event(0, day, "take 999 for 1000;");
        }
        x.trade(0, 1, 0, 2000, 0, 15, 0);
        x.trade(0, 1, 0, 1999, 0, 15, 0);
        refused("2,000 of 1,999, which were 1,999,000,000,000 at once", x.due(0, 0, 0), 7);
        refused("1,999 of 1,999", x.due(1, 0, 0), 8);
    }

    /** Sixteen events by about 1,000, then as many back: not one share is lost on the way. */
    private static void upAndDown() {
        start(21);
        x.account(NONE, 0, 0);
        x.account(NONE, 0, 0);
        x.issue(0, 0, 1, 1000000, 0, 0);
        event(0, 10, "give 1 of 0 for 1;");
        for (int day = 11; day <= 17; day++) {
            event(0, day, "give 999 of 0 for 1;");
        }
        for (int day = 18; day <= 24; day++) {
            event(0, day, "take 999 for 1000;");
        }
        event(0, 25, "take 1 for 2; take 499 for 1000;");
        x.trade(0, 1, 0, 2001, 0, 26, 0);
        x.trade(0, 1, 0, 1999, 0, 26, 0);
        x.trade(0, 1, 0, 2, 0, 26, 0);
        x.trade(0, 1, 0, 1, 0, 26, 0);
        refused("2,001 of 2,000", x.due(0, 0, 0), 7);
        refused("1,999 of 2,000", x.due(1, 0, 0), 8);
        refused("2 of 1", x.due(2, 0, 0), 7);
        refused("1 of 1", x.due(3, 0, 0), 8);
    }

    private static void cutsPastTooMuch() {
        start(21);
        int[] shares = {10, 5, 6};
        for (int i = 0; i < 3; i++) {
            x.account(NONE, 0, 0);
            x.issue(i, 0, 1, shares[i], 0, 0);
        }
        x.issue(0, 1, 1, 1000000, 0, 0);
        event(1, 2, "give 1000 of 1 for 1;");
        event(0, 5, "choice a{most 14 small 5; take 1 for 1;} default a;");
        event(0, 6, "coin 1 for 1;");
        x.trade(0, 1, 0, 5, 1, 7, 0);
        x.trade(1, 2, 0, 1, 1, 7, 0);
        x.trade(2, 0, 0, 4, 1, 7, 0);
        x.trade(0, 1, 0, 4, 1, 7, 0);
        x.trade(2, 0, 0, 3, 1, 7, 0);
        refused("5 of 4", x.due(0, 2, 0), 7);
        refused("1 of none, as 5 stay whole", x.due(1, 2, 0), 7);
        refused("4 of 3", x.due(2, 2, 0), 7);
        refused("4 of 4", x.due(3, 2, 0), 8);
        refused("3 of 3", x.due(4, 2, 0), 8);
        start(21);
        x.account(NONE, 0, 0);
        x.account(NONE, 0, 0);
        x.issue(0, 0, 1, 1 << 19, 0, 0);
        event(0, 10, "give 511 of 0 for 1;");
        event(0, 11, "give 511 of 0 for 1;");
        event(0, 12, "give 7 of 0 for 1;");
        event(0, 13, "when has > 0 {take 1 for 1;}");
        x.trade(0, 1, 0, 1, 1, 12, 0);
        x.trade(1, 0, 0, 1, 1, 12, 0);
        x.trade(0, 1, 0, 1, 1, 14, 0);
        refused("far more than 1", x.due(0, 0, 0), 8);
        refused("what came goes back", x.due(1, 0, 0), 8);
        refused("all of 2 to the 40th went", x.due(2, 0, 0), 7);
        start(21);
        x.account(NONE, 0, 0);
        x.account(NONE, 0, 0);
        x.issue(0, 0, 1, 1 << 19, 0, 0);
        event(0, 10, "give 511 of 0 for 1;");
        event(0, 11, "give 511 of 0 for 1;");
        event(0, 12, "give 7 of 0 for 1;");
        x.trade(0, 1, 0, 1, 1, 13, 0);
        for (int day = 14; day <= 16; day++) {
            event(0, day, "take 999 for 1000;");
        }
        x.trade(0, 1, 0, 1101, 1, 17, 0);
        x.trade(0, 1, 0, 1100, 1, 17, 0);
        refused("1,101 of 1,100, which were one less than 2 to the 40th", x.due(1, 0, 0), 7);
        refused("1,100 of 1,100", x.due(2, 0, 0), 8);
        smallPastTooMuch();
    }

    private static void smallPastTooMuch() {
        start(21);
        int[] shares = {10, 5, 6};
        for (int i = 0; i < 3; i++) {
            x.account(NONE, 0, 0);
            x.issue(i, 0, 1, shares[i], 0, 0);
        }
        x.issue(0, 1, 1, 1000000, 0, 0);
        event(1, 2, "give 1000 of 1 for 1;");
        event(0, 5, "choice a{most 5 small 5; take 1 for 1;} default a;");
        event(0, 6, "coin 1 for 1;");
        x.trade(1, 0, 0, 1, 1, 7, 0);
        x.trade(2, 1, 0, 6, 1, 7, 0);
        refused("none is left of a small one that just fits", x.due(0, 2, 0), 7);
        refused("the others keep theirs", x.due(1, 2, 0), 8);
    }

    private static void option() {
        start(22);
        fine("ordinary", x.option(19, 5, 1000000, 10000, 4), 0);
        refused("no paper", x.option(20, 5, 1, 1, 4), 1);
        refused("day", x.option(0, -1, 1, 1, 4), 2);
        refused("strike", x.option(0, 5, 0, 1, 4), 2);
        refused("strike", x.option(0, 5, 1000001, 1, 4), 2);
        refused("number", x.option(0, 5, 1, 0, 4), 2);
        refused("number", x.option(0, 5, 1, 10001, 4), 2);
        refused("known", x.option(0, 5, 1, 1, -1), 2);
        refused("gone", x.option(0, 5, 1, 1, 3), 4);
        for (int i = 1; i < 10; i++) {
            fine("option", x.option(0, 5, 1, 1, 4), i);
        }
        refused("an 11th", x.option(0, 5, 1, 1, 3), 3);
    }

    private static void optionOn() {
        start(23);
        x.option(0, 5, 100, 10, 3);
        feed("take 2 for 2; give 1 of 1 for 2; give 1 of 2 for 1;");
        x.event(0, 52, 6, 6, 6, 4);
        feed("give 1 of 3 for 1;");
        x.event(1, 18, 7, 7, 7, 4);
        feed("take 1 for 2; take 1 for 2;");
        x.event(1, 27, 8, 8, 8, 4);
        fine("on its own day", x.optionOn(0, 5), 0);
        fine("to the first paper given", x.optionOn(0, 6), 1);
        fine("a give of another paper alone is none of it", x.optionOn(0, 7), 1);
        refused("nothing would be left", x.optionOn(0, 8), 5);
        refused("no option", x.optionOn(1, 8), 1);
        refused("no option", x.optionOn(-1, 8), 1);
        refused("ahead of its own day", x.optionOn(0, 4), 2);
        refused("day", x.optionOn(0, 40001), 2);
        x.asof(2);
        refused("not known", x.optionOn(0, 8), 7);
        x.asof(3);
        fine("events are not known", x.optionOn(0, 8), 0);
        x.asof(40000);
        x.strike(1, 2, 5);
        fine("struck events don't count", x.optionOn(0, 8), 1);
    }

    /** That it ended comes ahead of that it does not count, and both ahead of too much. */
    private static void endedOptions() {
        start(23);
        x.option(0, 0, 1, 10000, 0);
        for (int day = 1; day <= 3; day++) {
            event(0, day, "give 999 of 0 for 1;");
        }
        event(0, 5, "take 1 for 1; give 1 of 1 for 1;");
        event(1, 6, "take 1 for 1;");
        fine("10,000,000,000", x.optionOn(0, 2), 0);
        refused("10,000,000,000,000", x.optionOn(0, 3), 8);
        refused("too much still", x.optionOn(0, 5), 8);
        refused("it ended on another paper", x.optionOn(0, 6), 5);
        refused("term: too much", x.term(0, 0, 5), 8);
        refused("term: it ended", x.term(0, 1, 6), 5);
        x.option(1, 6, 1, 1, 4);
        x.option(0, 1, 1, 10000, 4);
        x.asof(3);
        refused("not known, but ended by what is", x.optionOn(1, 6), 5);
        refused("not known, and too much", x.optionOn(2, 5), 7);
        refused("ahead of its own day comes first", x.optionOn(1, 5), 2);
        start(23);
        x.option(0, 0, 1, 1, 0);
        String much = "take 996 for 997;take 990 for 991;take 982 for 983;take 976 for 977;take 970 for 971;";
        event(0, 1, much);
        refused("what the takes add up to is too much, and nothing is left", x.optionOn(0, 1), 5);
        x.option(1, 0, 1, 1, 0);
        event(1, 1, much + "give 4 of 1 for 1;");
        refused("something is left", x.optionOn(1, 1), 8);
        x.option(2, 0, 1, 1, 0);
        event(2, 1, much + "give 1 of 2 for 997;give 1 of 2 for 991;give 1 of 2 for 983;give 1 of 2 for 977;"
                + "give 1 of 2 for 971;give 4 of 2 for 1;");
        refused("1 and 5 and 4 less 5 is left", x.optionOn(2, 1), 8);
        x.option(3, 0, 1, 1, 0);
        event(3, 1, much + "give 996 of 3 for 997;give 990 of 3 for 991;give 982 of 3 for 983;give 976 of 3 for 977;"
                + "give 970 of 3 for 971;take 1 for 2;take 1 for 2;");
        refused("just nothing is left", x.optionOn(3, 1), 5);
        event(4, 1, much + "give 996 of 4 for 997;give 990 of 4 for 991;give 982 of 4 for 983;give 976 of 4 for 977;"
                + "give 970 of 4 for 971;take 1 for 2;take 499 for 1000;");
        x.option(4, 0, 1, 1, 0);
        refused("a thousandth is left", x.optionOn(4, 1), 8);
    }

    private static void term() {
        start(24);
        x.option(0, 5, 100, 10, 0);
        x.option(0, 6, 100, 10, 0);
        event(0, 4, "give 1 of 0 for 1;");
        event(0, 5, "give 1 of 0 for 2;");
        event(0, 6, "take 1 for 3; give 1 of 0 for 12; give 1 of 4 for 1; coin 5 for 1;");
        event(0, 7, "choice a{give 1 of 0 for 1;}");
        event(0, 7, "when has > 1{give 1 of 0 for 1;}");
        fine("term", x.term(0, 1, 5));
        due("number by 3/2", x.upper(), 15);
        fine("term", x.term(0, 0, 5));
        due("strike by 2/3", x.upper(), 200);
        due("strike by 2/3", x.lower(), 3);
        fine("term", x.term(0, 1, 7));
        due("number by 3/4", x.upper(), 45);
        due("number by 3/4", x.lower(), 4);
        fine("term", x.term(1, 0, 7));
        due("strike by 4/3", x.upper(), 400);
        due("strike by 4/3", x.lower(), 3);
        refused("no option", x.term(2, 0, 7), 1);
        refused("what", x.term(0, 2, 7), 2);
        refused("what", x.term(0, -1, 7), 2);
        refused("ahead of its own day", x.term(1, 0, 5), 2);
        refused("day", x.term(1, 0, 40001), 2);
        event(0, 8, "take 1 for 1;");
        refused("it ended", x.term(0, 0, 8), 5);
        due("the fraction stands", x.upper(), 400);
        x.asof(0);
        x.option(0, 5, 1, 1, 1);
        refused("not known", x.term(2, 0, 7), 7);
        refused("not known, but ended by what is", x.term(2, 0, 8), 5);
    }

    private static void greatTerms() {
        promise = 24;
        x = new ShareLife();
        x.option(0, 0, 1000000, 1, 0);
        x.option(1, 0, 1, 1, 0);
        x.option(2, 0, 1000000, 10000, 0);
        event(0, 1, "take 1 for 1; give 1 of 0 for 1000;");
        event(0, 2, "take 1 for 1; give 1 of 0 for 1000;");
        event(0, 3, "take 1 for 1; give 999 of 0 for 1000;");
        fine("a part of 1,000,000,000,000", x.term(0, 0, 2));
        due("strike", x.upper(), 1000000000000L);
        refused("a part above that", x.term(0, 0, 3), 8);
        refused("optionOn too", x.optionOn(0, 3), 8);
        event(1, 1, "give 1 of 1 for 997;give 1 of 1 for 991;give 1 of 1 for 983;give 1 of 1 for 977;"
                + "take 1 for 997;take 1 for 991;take 1 for 983;");
        fine("997 * 991 * 983 * 977 is not above it", x.term(1, 0, 1));
        due("strike", x.upper(), 977);
        due("strike", x.lower(), 978);
        event(1, 2, "give 1 of 1 for 997;give 1 of 1 for 991;give 1 of 1 for 983;give 1 of 1 for 977;give 1 of 1 for 7;"
                + "take 1 for 997;take 1 for 991;take 1 for 983;take 1 for 977;take 1 for 7;");
        refused("clause behind clause", x.term(1, 0, 2), 8);
        x.option(3, 0, 1, 1, 0);
        event(3, 1, "take 996 for 997;give 1 of 3 for 991;give 1 of 3 for 983;give 1 of 3 for 977;");
        fine("a lower number of near 1,000,000,000,000", x.term(3, 1, 1));
        due("lower", x.lower(), 997L * 991 * 983 * 977);
        x.option(4, 0, 1, 1, 0);
        event(4, 1, "take 996 for 997;give 1 of 4 for 991;give 1 of 4 for 983;give 1 of 4 for 977;give 1 of 4 for 3;"
                + "take 1 for 3;");
        refused("only the lower number is above it on the way", x.term(4, 1, 1), 8);
        x.option(5, 0, 1, 1, 0);
        for (int day = 1; day <= 4; day++) {
            event(5, day, "take 1 for 1; give 1 of 5 for 1000;");
        }
        fine("1,000,000,000,000 below", x.term(5, 1, 4));
        due("upper", x.upper(), 1);
        due("lower", x.lower(), 1000000000000L);
        fine("1,000,000,000,000 above", x.term(5, 0, 4));
        due("upper", x.upper(), 1000000000000L);
        event(2, 1, "take 1 for 2;take 1 for 2;take 1 for 2;give 3 of 2 for 2;");
        fine("below 0 on the way is none", x.term(2, 1, 1));
        due("number", x.upper(), 10000);
    }

    private static void upperLower() {
        start(25);
        x.option(0, 1, 6, 4, 0);
        x.option(0, 1, 9, 4, 0);
        event(0, 2, "give 1 of 0 for 2;");
        x.term(0, 0, 2);
        due("6 by 3/2, without a common divisor", x.upper(), 4);
        promise = 26;
        due("lower of it", x.lower(), 1);
        x.term(1, 1, 2);
        promise = 25;
        due("4 times 3/2", x.upper(), 6);
        x.term(1, 1, 0);
        due("refused, it stands", x.upper(), 6);
        event(0, 3, "take 3 for 4;");
        x.term(1, 1, 3);
        due("6 less three quarters", x.upper(), 3);
        promise = 26;
        due("lower of it", x.lower(), 2);
        due("no status", x.status(), 0);
    }

    private static void rate() {
        start(27);
        feed("give 1 of 1 for 1;");
        x.event(0, 18, 5, 5, 5, 3);
        fine("0 at first", x.brings(0, NONE, 2), 0);
        fine("rate", x.rate(1, 100000));
        fine("by the rate", x.brings(0, NONE, 2), 200000);
        refused("no paper", x.rate(20, 1), 1);
        refused("no paper", x.rate(-1, 1), 1);
        refused("pennies", x.rate(1, -1), 2);
        refused("pennies", x.rate(1, 100001), 2);
        x.asof(0);
        fine("not in two times", x.brings(0, NONE, 2), 200000);
        fine("rate 0", x.rate(1, 0));
        fine("by the rate", x.brings(0, NONE, 2), 0);
    }

    private static void brings() {
        start(28);
        x.rate(0, 10);
        x.rate(1, 3);
        event(0, 5, "coin 1 for 1;choice a{take 1 for 1;take 1 for 1;give 3 of 1 for 2;most 1 rata;}"
                + "choice b{pay 5 for 1;}fraction coin 100;give 1 of 1 for 2;");
        fine("of none", x.brings(0, NONE, 5), 5 + 6 + 50);
        fine("takes are at most all; uncut", x.brings(0, 0, 5), 5 - 50 + 21 + 6 + 50);
        fine("pay", x.brings(0, 1, 5), 5 - 25 + 6 + 50);
        fine("-1 with status 0", x.brings(event(2, 5, "pay 1 for 1;"), NONE, 1), -1);
        fine("most shares", x.brings(1, NONE, 1000000), -1000000);
        event(0, 5, "when has > 9 { coin 1 for 1; }");
        fine("when", x.brings(2, NONE, 9), 0);
        fine("when", x.brings(2, NONE, 10), 10);
        refused("no event", x.brings(3, NONE, 1), 1);
        refused("no choice", x.brings(0, 2, 1), 1);
        refused("no choice", x.brings(0, -2, 1), 1);
        refused("shares", x.brings(0, 0, 0), 2);
        refused("shares", x.brings(0, 0, 1000001), 2);
    }

    private static void best() {
        start(29);
        event(0, 5, "choice a{coin 1 for 1;}choice b{coin 2 for 1;}choice c{coin 4 for 2;}");
        fine("of several the first", x.best(0, 2), 1);
        event(0, 5, "choice a{pay 1 for 2;}choice b{pay 3 for 4;}");
        fine("the greatest may be below 0", x.best(1, 4), 0);
        fine("like ones", x.best(1, 1), 0);
        event(0, 5, "coin 1 for 1;");
        refused("no choices", x.best(2, 1), 5);
        refused("shares", x.best(2, 0), 2);
        refused("shares", x.best(0, 1000001), 2);
        refused("no event", x.best(3, 0), 1);
    }

    private static void name() {
        start(30);
        fine("name", x.name(0, 9999, 40000, 7));
        refused("no paper", x.name(20, 1, 0, 7), 1);
        refused("name", x.name(0, 10000, 0, 7), 2);
        refused("name", x.name(0, -1, 0, 7), 2);
        refused("day", x.name(0, 0, 40001, 7), 2);
        refused("known", x.name(0, 0, 0, 40001), 2);
        refused("gone", x.name(0, 0, 0, 6), 4);
        for (int i = 1; i < 60; i++) {
            fine("name", x.name(i % 20, 0, 0, 7));
        }
        refused("a 61st", x.name(0, 0, 0, 6), 3);
        fine("called", x.called(0, 40000), 9999);
    }

    private static void called() {
        start(31);
        x.name(3, 5, 10, 1);
        x.name(3, 6, 20, 1);
        x.name(3, 7, 15, 2);
        x.name(3, 8, 10, 2);
        refused("ahead of all", x.called(3, 9), 5);
        fine("of one day the later one", x.called(3, 10), 8);
        fine("told later, begun ahead", x.called(3, 15), 7);
        fine("began latest", x.called(3, 20), 6);
        x.asof(1);
        fine("as known then", x.called(3, 19), 5);
        x.asof(0);
        refused("as known then", x.called(3, 19), 5);
        refused("no paper", x.called(20, 0), 1);
        refused("day", x.called(3, -1), 2);
        refused("day", x.called(3, 40001), 2);
    }

    private static void find() {
        start(32);
        x.name(9, 1, 5, 0);
        x.name(2, 1, 5, 0);
        x.name(4, 1, 5, 0);
        x.name(4, 0, 6, 0);
        fine("by numbers", x.find(1, 5, 0), 2);
        fine("by numbers", x.find(1, 5, 1), 4);
        fine("by numbers", x.find(1, 5, 2), 9);
        refused("no more", x.find(1, 5, 3), 5);
        fine("called otherwise by then", x.find(1, 6, 1), 9);
        fine("name 0", x.find(0, 6, 0), 4);
        refused("k below 0", x.find(1, 5, -1), 5);
        refused("name", x.find(10000, 5, 0), 2);
        refused("name", x.find(-1, 5, 0), 2);
        refused("day", x.find(1, 40001, 0), 2);
    }

    private static void hint() {
        start(33);
        fine("ordinary", x.hint(0, 19, 40000, 1000, 1, true), 0);
        refused("from", x.hint(20, 0, 1, 1, 1, true), 1);
        refused("to", x.hint(0, -1, 1, 1, 1, true), 1);
        refused("day", x.hint(0, 0, -1, 1, 1, true), 2);
        refused("day", x.hint(0, 0, 40001, 1, 1, true), 2);
        refused("m", x.hint(0, 0, 1, 0, 1, true), 2);
        refused("m", x.hint(0, 0, 1, 1001, 1, true), 2);
        refused("n", x.hint(0, 0, 1, 1, 0, true), 2);
        refused("n", x.hint(0, 0, 1, 1, 1001, true), 2);
        for (int i = 1; i < 12; i++) {
            fine("hint", x.hint(0, 0, 1, 1, 1, false), i);
        }
        refused("a 13th", x.hint(0, 0, 1, 1, 1, false), 3);
        refused("a 13th that can't be", x.hint(0, 0, 1, 1, 0, false), 2);
    }

    private static void explain() {
        start(34);
        fine("by nothing", x.explain(0, 5, 0, 0, 5, 1), 0);
        refused("nothing does", x.explain(0, 5, 0, 0, 4, 1), 5);
        refused("nothing does", x.explain(0, 5, 0, 1, 5, 1), 5);
        x.hint(0, 1, 10, 1, 2, true);
        x.hint(1, 2, 20, 3, 1, false);
        x.hint(0, 0, 5, 2, 1, false);
        fine("sure, then one", x.explain(0, 7, 0, 2, 9, 20), 1);
        fine("of a day by numbers, to the later day", x.explain(0, 7, 0, 1, 3, 10), 0);
        fine("the later day is not there yet", x.explain(0, 7, 0, 0, 7, 9), 0);
        refused("a sure one turns it", x.explain(0, 7, 0, 0, 7, 10), 5);
        fine("not of the day itself", x.explain(0, 7, 10, 0, 7, 40000), 0);
        fine("two", x.explain(0, 7, 0, 2, 21, 20), 2);
        fine("rounded down to nothing", x.explain(0, 1, 9, 1, 0, 10), 0);
        refused("no paper", x.explain(20, 1, 0, 0, 1, 1), 1);
        refused("no paper", x.explain(0, 1, 0, -1, 1, 1), 1);
        refused("shares", x.explain(0, 0, 0, 0, 1, 1), 2);
        refused("shares", x.explain(0, 1000001, 0, 0, 1, 1), 2);
        refused("like days", x.explain(0, 1, 5, 0, 1, 5), 2);
        refused("day", x.explain(0, 1, -1, 0, 1, 5), 2);
        refused("later", x.explain(0, 1, 0, 0, 1, 40001), 2);
        x = new ShareLife();
        x.hint(0, 0, 1, 1000, 1, true);
        x.hint(0, 0, 2, 1000, 1, true);
        x.hint(0, 0, 3, 1, 1000, true);
        fine("1,000,000,000,000 on the way", x.explain(0, 1000000, 0, 0, 1000000000, 3), 0);
        x.hint(0, 1, 2, 1000, 999, true);
        x.hint(1, 0, 3, 1, 1000, true);
        refused("more on the way", x.explain(0, 1000000, 0, 0, 1001001, 4), 5);
        x = new ShareLife();
        x.hint(0, 0, 1, 963, 1, true);
        x.hint(0, 0, 2, 994, 1, true);
        x.hint(0, 1, 3, 953, 907, true);
        x.hint(1, 0, 4, 1, 1000, true);
        x.hint(0, 2, 2, 1, 1000, false);
        refused("1,000,000,000,001 on the way", x.explain(0, 994264, 0, 0, 1000000000, 4), 5);
        fine("not so by another way", x.explain(0, 994264, 0, 2, 951731374, 4), 1);
    }

    private static void rivals() {
        start(35);
        refused("none yet", x.rivals(), 5);
        for (int i = 0; i < 4; i++) {
            x.hint(0, 0, 5, 2, 1, false);
        }
        x.hint(0, 0, 5, 4, 1, false);
        x.explain(0, 1, 0, 0, 2, 5);
        fine("four of one", x.rivals(), 4);
        x.explain(0, 1, 0, 0, 8, 5);
        fine("one of four and the fifth", x.rivals(), 4);
        x.explain(0, 1, 0, 0, 7, 5);
        fine("of the latest with status 0", x.rivals(), 4);
        x.explain(0, 1, 0, 0, 4, 5);
        fine("the fifth alone", x.rivals(), 1);
        x = new ShareLife();
        for (int i = 0; i < 12; i++) {
            x.hint(0, 0, 5, 2, 1, false);
        }
        fine("six of twelve", x.explain(0, 1, 0, 0, 64, 5), 6);
        fine("as many as there are", x.rivals(), 924);
        fine("eleven of twelve", x.explain(0, 1, 0, 0, 2048, 5), 11);
        fine("each may be left out", x.rivals(), 12);
        fine("all twelve", x.explain(0, 1, 0, 0, 4096, 5), 12);
        fine("one", x.rivals(), 1);
    }

    private static void because() {
        start(36);
        refused("none yet", x.because(0), 5);
        x.hint(0, 0, 9, 3, 1, false);
        x.hint(0, 0, 8, 2, 1, false);
        x.hint(0, 0, 7, 3, 1, false);
        x.hint(0, 0, 6, 2, 1, false);
        x.explain(0, 1, 0, 0, 6, 9);
        fine("by numbers, not by days", x.because(0), 0);
        fine("the least that only one has", x.because(1), 1);
        refused("no more", x.because(2), 5);
        refused("k below 0", x.because(-1), 5);
        fine("four of them", x.rivals(), 4);
        x.explain(0, 1, 0, 0, 99, 9);
        fine("the latest with status 0", x.because(1), 1);
        x.explain(0, 1, 0, 0, 1, 9);
        refused("an empty set", x.because(0), 5);
        x.hint(0, 1, 5, 1, 1, false);
        x.hint(1, 0, 5, 7, 1, false);
        x.hint(1, 0, 4, 7, 1, false);
        x.explain(0, 1, 0, 0, 7, 9);
        fine("one that does not find its paper is no explanation", x.because(1), 5);
        fine("one only", x.rivals(), 1);
    }

    public static void main(String[] args) {
        newObject();
        status();
        asof();
        account();
        issue();
        trade();
        feedTape();
        events();
        faults();
        choices();
        choose();
        strike();
        own();
        fractions();
        takes();
        manyUnderOne();
        total();
        worth();
        worthOfChoices();
        coin();
        greatCoin();
        chosen();
        stays();
        cuts();
        bears();
        done();
        dues();
        duesPastTooMuch();
        upAndDown();
        cutsPastTooMuch();
        option();
        optionOn();
        endedOptions();
        term();
        greatTerms();
        upperLower();
        rate();
        brings();
        best();
        name();
        called();
        find();
        hint();
        explain();
        rivals();
        because();
        System.out.println(wrong == 0 ? "all answers are as due" : wrong + " answers are not as due");
        if (wrong != 0) {
            System.exit(1);
        }
    }
}
