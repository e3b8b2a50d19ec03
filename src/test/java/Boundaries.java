import java.io.IOException;
import java.nio.file.Files;
import java.nio.file.Path;
import java.util.TreeSet;
import java.util.Set;
import java.util.regex.Matcher;
import java.util.regex.Pattern;

/**
 * Each sentence of the document that names a boundary case, quoted, with a test of its own: on the boundary, and one
 * beyond it. That the quotes stand in the document, and that each STATUS it names for a call is met, is looked at too.
 */
public final class Boundaries extends Checks {
    private static final int DAYS = 40000;
    private static final Set<String> quotes = new TreeSet<>();

    /** Begins the test of a sentence, in a new house. */
    private static void sentence(String words) {
        about = words;
        quotes.add(words);
        x = new ShareLife();
    }

    private static void tops(int count) {
        for (int i = 0; i < count; i++) {
            x.account(NONE, 0, 0);
        }
    }

    /** Top accounts with so many shares of paper 0 each, issued on day 1. */
    private static void holders(int... shares) {
        for (int i = 0; i < shares.length; i++) {
            x.account(NONE, 0, 0);
            if (shares[i] > 0) {
                x.issue(i, 0, 1, shares[i], 0, 0);
            }
        }
    }

    private static void owns(int paper, int day, long... want) {
        for (int i = 0; i < want.length; i++) {
            fine("own of account " + i, x.own(i, paper, day), want[i]);
        }
    }

    private static void stay(int event, int choice, long... want) {
        for (int i = 0; i < want.length; i++) {
            fine("stays of account " + i, x.stays(event, i, choice), want[i]);
        }
    }

    // ---- Terms

    private static void papersAndDays() {
        sentence("PAPERS 0 to 19 (kinds of shares).");
        tops(1);
        fine("issue of paper 0", x.issue(0, 0, 1, 3, 0, 0));
        fine("issue of paper 19", x.issue(0, 19, 1, 4, 0, 0));
        refused("issue of paper -1", x.issue(0, -1, 1, 3, 0, 0), 1);
        refused("issue of paper 20", x.issue(0, 20, 1, 3, 0, 0), 1);
        fine("own of paper 0", x.own(0, 0, 1), 3);
        fine("own of paper 19", x.own(0, 19, 1), 4);

        sentence("DAYS are 0 to 40,000.");
        tops(1);
        fine("issue on day 0", x.issue(0, 0, 0, 3, 0, 0));
        fine("issue on day 40,000", x.issue(0, 0, DAYS, 4, 0, DAYS));
        refused("issue on day -1", x.issue(0, 0, -1, 3, 0, DAYS), 2);
        refused("issue on day 40,001", x.issue(0, 0, DAYS + 1, 3, 0, DAYS), 2);
        refused("issue known on day 40,001", x.issue(0, 0, 1, 3, 0, DAYS + 1), 2);
        fine("own on day 0", x.own(0, 0, 0), 3);
        fine("own on day 39,999", x.own(0, 0, DAYS - 1), 3);
        fine("own on day 40,000", x.own(0, 0, DAYS), 7);
        feed(x, "give 1 of 1 for 1;");
        fine("event on day 40,000", x.event(0, 18, DAYS, DAYS, DAYS, DAYS), 0);
        fine("own behind it", x.own(0, 1, DAYS), 7);
        fine("own a day ahead of it", x.own(0, 1, DAYS - 1), 0);
    }

    private static void days() {
        sentence("All that is told is KNOWN on a day that never goes back (each telling names it; but ACCOUNTS)");
        tops(2);
        feed(x, "choice a{}");
        fine("event known on day 0", x.event(0, 10, 5, 5, 5, 0), 0);
        fine("issue known on day 7", x.issue(0, 0, 1, 9, 0, 7));
        fine("issue known on the same day", x.issue(0, 0, 1, 9, 0, 7));
        refused("issue a day back", x.issue(0, 0, 1, 9, 0, 6), 4);
        refused("trade a day back", x.trade(0, 1, 0, 1, 1, 1, 6), 4);
        refused("event a day back", x.event(0, 0, 5, 5, 5, 6), 4);
        refused("choose a day back", x.choose(0, 0, 0, 1, 6), 4);
        refused("strike a day back", x.strike(1, 0, 6), 4);
        refused("option a day back", x.option(0, 1, 1, 1, 6), 4);
        refused("name a day back", x.name(0, 1, 1, 6), 4);
        fine("account has no such day", x.account(NONE, 0, 0), 2);
        fine("hint has no such day", x.hint(0, 0, 1, 1, 1, true), 0);
        fine("rate has no such day", x.rate(0, 1));
        fine("trade moves it", x.trade(0, 1, 0, 1, 1, 1, 8), 0);
        refused("name behind a trade", x.name(0, 1, 1, 7), 4);
        fine("choose moves it", x.choose(0, 0, 0, 1, 9), 0);
        refused("name behind a CHOICE", x.name(0, 1, 1, 8), 4);
        fine("strike moves it", x.strike(2, 0, 10));
        refused("name behind a strike", x.name(0, 1, 1, 9), 4);
        fine("option moves it", x.option(0, 1, 1, 1, 11), 0);
        refused("name behind an option", x.name(0, 1, 1, 10), 4);
        fine("name moves it", x.name(0, 1, 1, 12));
        refused("option behind a name", x.option(0, 1, 1, 1, 11), 4);
        fine("event moves it", x.event(0, 0, 5, 5, 5, 13), 1);
        refused("option behind an event", x.option(0, 1, 1, 1, 12), 4);
        refused("event refused", x.event(0, 0, 5, 50, 50, 20), 2);
        fine("option behind a refused event", x.option(0, 1, 1, 1, 13), 1);
    }

    private static void twoTimes() {
        sentence("and may be STRUCK from a day on");
        holders(10);
        feed(x, "coin 1 for 1;");
        x.event(0, 13, 5, 5, 5, 3);
        x.event(0, 0, 6, 6, 6, 3);
        fine("strike", x.strike(1, 0, 5));
        long[] want = {0, 0, 0, 10, 10, 0, 0};
        for (int day = 0; day < want.length; day++) {
            x.asof(day);
            fine("coin as of " + day, x.coin(0, 0, DAYS), want[day]);
        }
        refused("strike of what is struck already", x.strike(1, 0, 9), 4);
        x.asof(4);
        refused("strike of what is struck from a later day on", x.strike(1, 0, 9), 4);
        fine("strike on the day that it is known", x.strike(1, 1, 5));

        sentence("AS OF a day (40,000 at first; set by asof()) all is worked out from what was KNOWN then and not STRUCK then.");
        tops(2);
        x.issue(0, 0, 1, 10, 0, 8);
        x.trade(0, 1, 0, 3, 1, 1, 9);
        x.issue(0, 0, 1, 100, 0, DAYS);
        fine("own at first", x.own(0, 0, 1), 107);
        x.asof(DAYS - 1);
        fine("own as of 39,999", x.own(0, 0, 1), 7);
        x.asof(8);
        fine("own as of 8", x.own(0, 0, 1), 10);
        refused("done of a trade not known then", x.done(0), 7);
        x.asof(9);
        fine("done on the day that it is known", x.done(0), 1);
        x.asof(7);
        fine("own as of 7", x.own(0, 0, 1), 0);
        refused("asof of -1", x.asof(-1), 2);
        refused("asof of 40,001", x.asof(DAYS + 1), 2);
        fine("own as of 7 still", x.own(0, 0, 1), 0);
    }

    private static void accounts() {
        sentence("ACCOUNTS, at most 20, numbered as they come");
        for (int i = 0; i < 20; i++) {
            fine("account", x.account(NONE, 0, 0), i);
        }
        refused("account, a 21st", x.account(NONE, 0, 0), 3);
        fine("own of the 20th", x.own(19, 0, 0), 0);
        refused("own of a 21st", x.own(20, 0, 0), 1);

        sentence("each under another one there already (its HAND), or a TOP one");
        refused("account under the first to be", x.account(0, 0, 0), 1);
        fine("account at the top", x.account(NONE, 0, 0), 0);
        refused("account under itself to be", x.account(1, 0, 0), 1);
        refused("account under -2", x.account(-2, 0, 0), 1);
        for (int i = 1; i < 20; i++) {
            fine("account, each under the one ahead", x.account(i - 1, 0, 0), i);
        }
        x.issue(19, 0, 1, 5, 0, 0);
        fine("total of a chain of twenty", x.total(0, 0, 1), 5);
        event(0, 2, "give 7 of 1 for 5; coin 9 for 5;");
        fine("own at the end of it", x.own(19, 1, 2), 7);
        fine("coin at the end of it", x.coin(19, 0, 2), 9);
        fine("own on the way", x.own(10, 1, 2), 0);

        sentence("LEAD and DELAY of an account (0 to 30 days)");
        fine("account with 0 and 30", x.account(NONE, 0, 30), 0);
        fine("account with 30 and 0", x.account(NONE, 30, 0), 1);
        refused("account with lead -1", x.account(NONE, -1, 0), 2);
        refused("account with lead 31", x.account(NONE, 31, 0), 2);
        refused("account with delay -1", x.account(NONE, 0, -1), 2);
        refused("account with delay 31", x.account(NONE, 0, 31), 2);
    }

    private static void issues() {
        sentence("ISSUES, at most 40");
        tops(1);
        for (int i = 0; i < 40; i++) {
            fine("issue", x.issue(0, 0, 1, 1000000, 100000000, 0));
        }
        refused("issue, a 41st", x.issue(0, 0, 1, 1, 0, 0), 3);
        fine("own of all", x.own(0, 0, 1), 40000000);
        fine("worth of all", x.worth(0, 0, 1), 4000000000L);

        sentence("so many shares (1 to 1,000,000) of a PAPER come to an ACCOUNT");
        tops(1);
        refused("issue of 0 shares", x.issue(0, 0, 1, 0, 0, 0), 2);
        refused("issue of -1 shares", x.issue(0, 0, 1, -1, 0, 0), 2);
        refused("issue of 1,000,001 shares", x.issue(0, 0, 1, 1000001, 0, 0), 2);
        fine("issue of 1 share", x.issue(0, 0, 1, 1, 0, 0));
        fine("issue of 1,000,000 shares", x.issue(0, 1, 1, 1000000, 0, 0));
        fine("own", x.own(0, 0, 1), 1);
        fine("own", x.own(0, 1, 1), 1000000);

        sentence("with a tax WORTH in pennies (0 to 100,000,000)");
        tops(1);
        refused("issue with a worth of -1", x.issue(0, 0, 1, 1, -1, 0), 2);
        refused("issue with a worth of 100,000,001", x.issue(0, 0, 1, 1, 100000001, 0), 2);
        fine("issue with a worth of 0", x.issue(0, 0, 1, 1, 0, 0));
        fine("issue with a worth of 100,000,000", x.issue(0, 1, 1, 1, 100000000, 0));
        fine("worth", x.worth(0, 0, 1), 0);
        fine("worth", x.worth(0, 1, 1), 100000000);
    }

    private static void trades() {
        sentence("TRADES, at most 40, numbered as they come");
        holders(1, 0);
        for (int i = 0; i < 40; i++) {
            fine("trade there and back", x.trade(i % 2, 1 - i % 2, 0, 1, 1, 1, 0), i);
        }
        refused("trade, a 41st", x.trade(0, 1, 0, 1, 1, 1, 0), 3);
        fine("done of the 40th", x.done(39), 1);
        refused("done of a 41st", x.done(40), 1);
        owns(0, 1, 1, 0);

        sentence("go from an ACCOUNT to another one");
        tops(2);
        refused("trade to itself", x.trade(1, 1, 0, 1, 1, 1, 0), 1);
        refused("trade from no account", x.trade(2, 1, 0, 1, 1, 1, 0), 1);
        refused("trade to no account", x.trade(0, NONE, 0, 1, 1, 1, 0), 1);
        refused("trade of 0 shares", x.trade(0, 1, 0, 0, 1, 1, 0), 2);
        refused("trade of 1,000,001 shares", x.trade(0, 1, 0, 1000001, 1, 1, 0), 2);
        fine("trade of 1,000,000 shares", x.trade(0, 1, 0, 1000000, 1, 1, 0), 0);
        fine("trade of 1 share", x.trade(0, 1, 0, 1, 1, 1, 0), 1);

        sentence("dealt on a day, settled on a day not ahead of that");
        tops(2);
        refused("trade settled a day ahead", x.trade(0, 1, 0, 1, 8, 7, 0), 2);
        fine("trade settled on the day", x.trade(0, 1, 0, 1, 8, 8, 0), 0);
        fine("trade settled on day 0", x.trade(0, 1, 0, 1, 0, 0, 0), 1);
        fine("trade dealt on day 0, settled on day 40,000", x.trade(0, 1, 0, 1, 0, DAYS, 0), 2);
        refused("trade settled on day 40,001", x.trade(0, 1, 0, 1, 0, DAYS + 1, 0), 2);
        refused("trade dealt on day -1", x.trade(0, 1, 0, 1, -1, 0, 0), 2);
    }

    private static void settling() {
        sentence("a TRADE is done, if the ACCOUNT has as many of its own then (else it FAILS, for good)");
        holders(10, 0);
        x.account(0, 0, 0);
        x.issue(2, 0, 1, 50, 0, 0);
        x.trade(0, 1, 0, 11, 1, 2, 0);
        x.trade(0, 1, 0, 10, 1, 2, 0);
        x.trade(0, 1, 0, 1, 1, 2, 0);
        x.issue(0, 0, 3, 5, 0, 0);
        x.trade(1, 0, 0, 11, 1, 3, 0);
        x.trade(0, 1, 0, 5, 1, 3, 0);
        fine("done of one more than its own", x.done(0), 0);
        fine("done of as many", x.done(1), 1);
        fine("done with none left", x.done(2), 0);
        fine("done with too few", x.done(3), 0);
        fine("done with what was issued on that day", x.done(4), 1);
        owns(0, 3, 0, 15, 50);
        fine("own ahead of settling", x.own(1, 0, 1), 0);
        fine("own on the settling day", x.own(1, 0, 2), 10);

        sentence("of its WORTH there goes as much as of its shares, rounded down");
        tops(2);
        x.issue(0, 0, 1, 3, 100, 0);
        for (int day = 2; day <= 4; day++) {
            x.trade(0, 1, 0, 1, day, day, 0);
        }
        long[] left = {100, 67, 34, 0};
        for (int i = 0; i < left.length; i++) {
            fine("worth of the seller", x.worth(0, 0, i + 1), left[i]);
            fine("worth of the buyer", x.worth(1, 0, i + 1), 100 - left[i]);
        }
        fine("coin: nothing is realized by a trade", x.coin(0, 1, 4), 0);
    }

    // ---- 2. EVENTS

    private static void events() {
        sentence("EVENTS, at most 16, numbered as they come");
        for (int i = 0; i < 16; i++) {
            fine("event", x.event(0, 0, 5, 5, 5, 0), i);
        }
        feed(x, "x");
        refused("event, a 17th", x.event(0, 0, 5, 5, 5, 0), 3);
        refused("event, a 17th with a fault", x.event(0, 1, 5, 5, 5, 0), 3);
        due("fault of the latest with 0 or 6", x.fault(0), 0);
        fine("choices of the 16th", x.choices(15), 0);
        refused("choices of a 17th", x.choices(16), 1);

        sentence("a RECORD day not ahead of it by more than 10 days nor behind it by more than 10");
        fine("event with RECORD 10 ahead of EX", x.event(0, 0, 20, 10, 10, 0), 0);
        refused("event with RECORD 11 ahead of EX", x.event(0, 0, 20, 9, 9, 0), 2);
        fine("event with RECORD 10 behind EX", x.event(0, 0, 20, 30, 30, 0), 1);
        refused("event with RECORD 11 behind EX", x.event(0, 0, 20, 31, 31, 0), 2);
        fine("event with EX on the last day", x.event(0, 0, DAYS, DAYS - 10, DAYS, 0), 2);
        fine("event with RECORD on day 0", x.event(0, 0, 10, 0, 0, 0), 3);
        refused("event with EX on day -1", x.event(0, 0, -1, 0, 0, 0), 2);
        refused("event with RECORD on day 40,001", x.event(0, 0, DAYS, DAYS + 1, DAYS + 1, 0), 2);
        refused("event with days far apart", x.event(0, 0, LEAST, GREATEST, GREATEST, 0), 2);

        sentence("a LAST day for choices (not ahead of RECORD)");
        refused("event with LAST a day ahead of RECORD", x.event(0, 0, 5, 5, 4, 0), 2);
        fine("event with LAST on RECORD", x.event(0, 0, 5, 5, 5, 0), 0);
        fine("event with LAST on the last day", x.event(0, 0, 5, 5, DAYS, 0), 1);
        refused("event with LAST on day 40,001", x.event(0, 0, 5, 5, DAYS + 1, 0), 2);
        fine("event with LAST ahead of EX, not of RECORD", x.event(0, 0, 15, 5, 5, 0), 2);
    }

    private static void texts() {
        sentence("TEXTS, at most 400 bytes.");
        String text = times("pay 1 for 1;", 30) + times(" ", 40);
        feed(x, text);
        refused("event of 401 bytes", x.event(0, 401, 5, 5, 5, 0), 2);
        refused("event of -1 bytes", x.event(0, -1, 5, 5, 5, 0), 2);
        fine("event of 400 bytes", x.event(0, 400, 5, 5, 5, 0), 0);
        refused("event of 1 byte of an empty tape", x.event(0, 1, 5, 5, 5, 0), 2);
        fine("event of 0 bytes of an empty tape", x.event(0, 0, 5, 5, 5, 0), 1);
        feed(x, "coin 1 for 1;coin 2 for 1;");
        fine("event of the first bytes alone", x.event(0, 13, 5, 5, 5, 0), 2);
        fine("brings", x.brings(2, NONE, 1), 1);

        sentence("Twenty bytes come behind those on the tape, the highest of each int first: how many it has; NONE if there would be more than 400.");
        due("feed", x.feed('p' << 24 | 'a' << 16 | 'y' << 8 | ' ', '1' << 24 | ' ' << 16 | 'f' << 8 | 'o',
                'r' << 24 | ' ' << 16 | '1' << 8 | ';', 0x0a0a2020, 0x20202020), 20);
        for (int fed = 40; fed <= 400; fed += 20) {
            due("feed", x.feed(0x20202020, 0x20202020, 0x20202020, 0x20202020, 0x0a0a0a0a), fed);
        }
        due("feed of a 21st", x.feed(-1, -1, -1, -1, -1), NONE);
        due("feed of a 22nd", x.feed(-1, -1, -1, -1, -1), NONE);
        fine("event of all of it", x.event(0, 400, 5, 5, 5, 0), 0);
        due("feed behind it", x.feed(-1, -1, -1, -1, -1), 20);
        refused("event of a byte 255", x.event(0, 1, 5, 5, 5, 0), 6);
        due("fault", x.fault(0), 1);
        due("feed behind a fault", x.feed(0x20202020, 0x20202020, 0x20202020, 0x20202020, 0x80000000), 20);
        refused("event with a byte 128", x.event(0, 20, 5, 5, 5, 0), 6);
        due("its place", x.fault(1), 16);

        sentence("its TEXT the first n bytes of the tape (which is empty then, but for 1, 2, 3, 4)");
        feed(x, "pay 1 for 1;");
        refused("event of no paper", x.event(20, 12, 5, 5, 5, 0), 1);
        refused("event with too many bytes", x.event(0, 21, 5, 5, 5, 0), 2);
        x.name(0, 1, 1, 1);
        refused("event on a day that is gone", x.event(0, 12, 5, 5, 5, 0), 4);
        due("feed: the tape stood", x.feed(0, 0, 0, 0, 0), 40);
        fine("event", x.event(0, 20, 5, 5, 5, 1), 0);
        due("feed: the tape was empty", x.feed(0, 0, 0, 0, 0), 20);
        refused("event with a fault", x.event(0, 20, 5, 5, 5, 1), 6);
        due("feed: the tape was empty", x.feed(0, 0, 0, 0, 0), 20);
        for (int i = 1; i < 16; i++) {
            x.event(0, 0, 5, 5, 5, 1);
            x.feed(0, 0, 0, 0, 0);
        }
        refused("event, one too many", x.event(0, 20, 5, 5, 5, 1), 3);
        due("feed: the tape stood", x.feed(0, 0, 0, 0, 0), 40);
    }

    private static void tokens() {
        sentence("TOKENS, as long as they go, between them blanks (10, 32): WORDS (small letters), NUMBERS (1 to 7 digits), SIGNS ; { } < >");
        fault("", 0, NONE);
        fault(times(" ", 400), 0, NONE);
        fault(" \n\n  \n", 0, NONE);
        fault("\npay\n1\nfor\n1\n;\n", 0, NONE);
        fault("pay1for1;", 0, NONE);
        fault("payfor 1;", 2, 0);
        fault("pay 0 for 1;", 0, NONE);
        fault("pay 9999999 for 1;", 0, NONE);
        fault("pay 0000000 for 0001000;", 0, NONE);
        fault("pay 1 2 for 1;", 2, 6);
        fault("pay 1\tfor 1;", 1, 5);
        fault("pay 1\rfor 1;", 1, 5);
        fault("pay 1" + (char) 9 + "for 1;", 1, 5);
        fault("pay 1" + (char) 11 + "for 1;", 1, 5);
        fault("pay 1" + (char) 31 + "for 1;", 1, 5);
        fault("pay 1" + (char) 33 + "for 1;", 1, 5);
        for (int sign : new int[] {0, '/', ':', '`', '|', '~', 'A', 'Z', '=', '?', '_', 127, 128, 255, 'z' + 1}) {
            boolean isSign = sign == '{';
            fault("" + (char) sign, isSign ? 2 : 1, 0);
        }
        for (char sign : ";{}<>".toCharArray()) {
            fault("" + sign, 2, 0);
        }

        sentence("NAME: a WORD of 1 to 8 letters.");
        fault("choice a{}default a;", 0, NONE);
        fault("choice abcdefgh{}default abcdefgh;", 0, NONE);
        fault("choice abcdefghi{}", 2, 7);
        fault("choice abcdefgh{}default abcdefghi;", 2, 25);
        fault("choice {}", 2, 7);
        fault("choice give{}choice for{}choice else{}default else;", 0, NONE);
        fault("choice abcdefgh{}choice abcdefg{}", 0, NONE);
        fault("choice z{}choice az{}choice za{}default za;", 0, NONE);

        sentence("({CLAUSE}: any number of times; the { } around it are SIGNS; [ ] perhaps.)");
        fault("when has < 1 { }", 0, NONE);
        fault("when has < 1 { } else { }", 0, NONE);
        fault("when has < 1 { pay 1 for 1; pay 2 for 1; } else { pay 3 for 1; pay 4 for 1; }", 0, NONE);
        fault("when has < 1 { } else", 2, 21);
        fault("when has < 1 { } else { } else { }", 2, 26);
        fault("choice a { } else { }", 2, 13);
        fault("else { }", 2, 0);
    }

    private static void firstFaults() {
        sentence("FAULTS, the first along the text (of one TOKEN the least kind)");
        fault("give 0 of 20 for 0;", 4, 5);
        fault("pay 1 for 1 ? give", 1, 12);
        fault("x ?", 2, 0);
        fault("give 1001 ?", 4, 5);
        fault("give ? 1001", 1, 5);
        fault(times("pay 1 for 1;", 30) + "?", 1, 360);
        fault(times("pay 1 for 1;", 30) + "x", 2, 360);
        fault(times("pay 1 for 1;", 30) + "choice", 3, 360);
        fault(times("pay 1 for 1;", 30) + "default", 3, 360);
        fault(times("pay 1 for 1;", 30) + ";", 2, 360);
        fault("when has<1{when has<1{when has<1{most 1 rata;}}}", 3, 33);
        fault("when has<1{when has<1{when has<1{x}}}", 2, 33);
        fault("when has<1{when has<1{when has<1{?}}}", 1, 33);
        fault("choice a{}default a;when has<1{default a;}", 5, 31);
        fault("choice a{}choice b{}choice c{}choice abcdefghi{}", 2, 37);
        fault("choice a{}choice b{}choice c{}choice b{}", 3, 37);
        fault("give 12345678 of 0 for 1;", 1, 5);

        sentence("1 no TOKEN begins so (a NUMBER of 8 digits and more: at its first).");
        fault("pay 1234567 for 1;", 0, NONE);
        fault("pay 12345678 for 1;", 1, 4);
        fault("pay 00000001 for 1;", 1, 4);
        fault("pay 1 for 00000001;", 1, 10);
        fault("pay " + times("9", 300), 1, 4);
        fault("12345678", 1, 0);
        fault("choice 12345678{}", 1, 7);
        fault("Pay 1 for 1;", 1, 0);
        fault("pAy 1 for 1;", 2, 0);

        sentence("2 it can't stand there (the end: the text's length).");
        fault("pay", 2, 3);
        fault("pay ", 2, 4);
        fault("pay 1 for 1", 2, 11);
        fault("pay 1 for 1" + times(" ", 389), 2, 400);
        fault("when has < 1 {", 2, 14);
        fault("choice a { pay 1 for 1;", 2, 23);
        fault("when", 2, 4);
        fault("when has", 2, 8);
        fault("when has <", 2, 10);
        fault("when has < 1", 2, 12);
        fault("fraction", 2, 8);
        fault("fraction coin", 2, 13);
        fault("choice", 2, 6);
        fault("choice a{}default", 2, 17);
        fault("choice a{most", 2, 13);
        fault("choice a{most 1", 2, 15);
        fault("choice a{most 1 small", 2, 21);
        fault("choice a{most 1 small 1", 2, 23);
        fault("worth", 2, 5);
        fault("worth 1", 2, 7);
        fault("worth 1 to", 2, 10);
        fault("give 1 of", 2, 9);
        fault("give 1 of 1", 2, 11);
        fault("give 1 of 1 for", 2, 15);
        fault("pay 1 for 1; }", 2, 13);
        fault("when has < 1 { } }", 2, 17);
    }

    private static void limits() {
        sentence("3 a 31st CLAUSE (at its WORD); a CLAUSE within three others (at its WORD); a fourth choice (at its NAME).");
        fault(times("pay 1 for 1;", 30), 0, NONE);
        fault(times("pay 1 for 1;", 31), 3, 360);
        fault("choice a{" + times("pay 1 for 1;", 28) + "}default a;", 0, NONE);
        fault("choice a{" + times("pay 1 for 1;", 29) + "}default a;", 3, 358);
        fault("when has<1{" + times("pay 1 for 1;", 14) + "}else{" + times("pay 1 for 1;", 15) + "}", 0, NONE);
        fault("when has<1{" + times("pay 1 for 1;", 15) + "}else{" + times("pay 1 for 1;", 15) + "}", 3, 365);
        fault("when has<1{when has<1{when has<1{}}}", 0, NONE);
        fault("when has<1{when has<1{when has<1{}else{}}}", 0, NONE);
        fault("when has<1{when has<1{pay 1 for 1;}}", 0, NONE);
        fault("when has<1{when has<1{when has<1{pay 1 for 1;}}}", 3, 33);
        fault("when has<1{when has<1{when has<1{}else{pay 1 for 1;}}}", 3, 39);
        fault("when has<1{}else{when has<1{}else{when has<1{}else{when has<1{}}}}", 3, 51);
        fault("choice a{when has<1{when has<1{}}}", 0, NONE);
        fault("choice a{when has<1{when has<1{pay 1 for 1;}}}", 3, 31);
        fault("when has<1{}when has<1{}when has<1{}when has<1{}", 0, NONE);
        fault("choice a{}choice b{}choice c{}", 0, NONE);
        fault("choice a{}choice b{}choice c{}choice d{}", 3, 37);

        sentence("4 a NUMBER that can't be: of a PAPER (behind of, to) 0 to 19");
        fault("give 1 of 0 for 1;give 1 of 19 for 1;worth 1 to 0;worth 1 to 19;", 0, NONE);
        fault("give 1 of 20 for 1;", 4, 10);
        fault("worth 1 to 20;", 4, 11);
        fault("worth 1 to 9999999;", 4, 11);

        sentence("behind for 1 to 1,000");
        String[] words = {"give 1 of 1 for ", "take 1 for ", "coin 1 for ", "pay 1 for "};
        for (String ahead : words) {
            fault(ahead + "1;", 0, NONE);
            fault(ahead + "1000;", 0, NONE);
            fault(ahead + "0;", 4, ahead.length());
            fault(ahead + "1001;", 4, ahead.length());
        }

        sentence("behind give, take 1 to 1,000, a take's not above its for (at that)");
        fault("give 1 of 1 for 1;give 1000 of 1 for 1;", 0, NONE);
        fault("give 0 of 1 for 1;", 4, 5);
        fault("give 1001 of 1 for 1;", 4, 5);
        fault("take 1 for 1;take 1000 for 1000;take 1 for 1000;", 0, NONE);
        fault("take 0 for 1;", 4, 5);
        fault("take 1001 for 1001;", 4, 5);
        fault("take 2 for 1;", 4, 11);
        fault("take 1000 for 999;", 4, 14);
        fault("take 2 for 2;", 0, NONE);

        sentence("worth 0 to 1,000.");
        fault("worth 0 to 1;worth 1000 to 1;", 0, NONE);
        fault("worth 1001 to 1;", 4, 6);
        fault("coin 0 for 1;coin 9999999 for 1;fraction coin 0;fraction coin 9999999;", 0, NONE);
        fault("when has<0{}when has>9999999{}choice a{most 0 small 0;}choice b{most 9999999 small 9999999;}", 0, NONE);
    }

    private static void places() {
        sentence("5 a NAME of a choice there already; of a default that no choice ahead has; a second default (at default).");
        fault("choice a{}choice b{}default b;", 0, NONE);
        fault("choice a{}choice a{}", 5, 17);
        fault("choice ab{}choice abc{}choice a{}", 0, NONE);
        fault("default a;", 5, 8);
        fault("default a;choice a{}", 5, 8);
        fault("choice a{}default ab;", 5, 18);
        fault("choice ab{}default a;", 5, 19);
        fault("choice a{}default a;choice b{}default b;", 5, 30);
        fault("choice a{}default a;choice b{}", 0, NONE);

        sentence("6 a choice or a default within another CLAUSE; a most that is not right within a choice, or a second one there;");
        fault("choice a{choice b{}}", 6, 9);
        fault("when has<1{choice b{}}", 6, 11);
        fault("when has<1{}else{choice b{}}", 6, 17);
        fault("choice a{default a;}", 6, 9);
        fault("choice a{}when has<1{default a;}", 6, 21);
        fault("most 1 rata;", 6, 0);
        fault("choice a{}most 1 rata;", 6, 10);
        fault("when has<1{most 1 rata;}", 6, 11);
        fault("choice a{when has<1{most 1 rata;}}", 6, 20);
        fault("choice a{when has<1{}most 1 rata;}", 0, NONE);
        fault("choice a{most 1 rata;most 2 rata;}", 6, 21);
        fault("choice a{most 1 rata;}choice b{most 2 small 1;}choice c{most 3 rata;}", 0, NONE);

        sentence("a take within a choice (or a when in it), if one stood ahead outside of all choices, or the other way round (at its WORD).");
        fault("take 1 for 1;choice a{take 1 for 1;}", 6, 22);
        fault("take 1 for 1;choice a{when has<1{take 1 for 1;}}", 6, 33);
        fault("when has<1{take 1 for 1;}choice a{take 1 for 1;}", 6, 34);
        fault("when has<1{}else{take 1 for 1;}choice a{}choice b{take 1 for 1;}", 6, 50);
        fault("choice a{take 1 for 1;}take 1 for 1;", 6, 23);
        fault("choice a{when has<1{take 1 for 1;}}take 1 for 1;", 6, 35);
        fault("choice a{take 1 for 1;}when has<1{take 1 for 1;}", 6, 34);
        fault("take 1 for 1;when has<1{take 1 for 1;}choice a{}take 1 for 1;", 0, NONE);
        fault("choice a{take 1 for 1;when has<1{take 1 for 1;}}choice b{take 1 for 1;}", 0, NONE);
    }

    private static void whatFaultTells() {
        sentence("Of the latest event() with STATUS 0 or 6, what 0: the FAULT (0 without one), 1: its place (NONE without). NONE for others, and ahead of any.");
        due("fault(0) ahead of any", x.fault(0), NONE);
        due("fault(1) ahead of any", x.fault(1), NONE);
        refused("event refused by 1", x.event(20, 0, 5, 5, 5, 0), 1);
        due("fault(0) ahead of any with 0 or 6", x.fault(0), NONE);
        feed(x, "pay x");
        refused("event with a fault", x.event(0, 5, 5, 5, 5, 0), 6);
        due("fault(0)", x.fault(0), 2);
        due("fault(1)", x.fault(1), 4);
        refused("event refused by 2", x.event(0, 1, 5, 5, 5, 0), 2);
        due("fault(0) still", x.fault(0), 2);
        due("fault(1) still", x.fault(1), 4);
        fine("event", x.event(0, 0, 5, 5, 5, 0), 0);
        due("fault(0)", x.fault(0), 0);
        due("fault(1)", x.fault(1), NONE);
        for (int what : new int[] {LEAST, -1, 2, GREATEST}) {
            due("fault(" + what + ")", x.fault(what), NONE);
        }

        sentence("How many choices an EVENT's TEXT has (1).");
        refused("choices of none", x.choices(0), 1);
        event(0, 5, "");
        event(0, 5, "choice a{}choice b{}choice c{}");
        fine("choices", x.choices(0), 0);
        fine("choices", x.choices(1), 3);
        refused("choices of -1", x.choices(-1), 1);
    }

    // ---- 3. how an EVENT is run

    private static void order() {
        sentence("An EVENT is RUN at the end of its RECORD day, behind ISSUES (ahead of all) and TRADES of that day; of one day by numbers.");
        tops(2);
        event(0, 5, "give 1 of 0 for 1;");
        event(0, 5, "coin 1 for 1;");
        x.trade(0, 1, 0, 4, 5, 5, 0);
        x.issue(0, 0, 5, 10, 0, 0);
        fine("done with the ISSUE of that day", x.done(0), 1);
        owns(0, 4, 0, 0);
        owns(0, 5, 12, 8);
        fine("coin behind the EVENT of the lesser number", x.coin(0, 0, 5), 12);
        x.trade(0, 1, 0, 13, 5, 5, 0);
        fine("done ahead of the EVENTS of that day", x.done(1), 0);
        event(0, 4, "give 9 of 0 for 1;");
        owns(0, 5, 12, 8);
    }

    private static void choosing() {
        sentence("else the default; without a default nothing.");
        holders(10);
        event(0, 5, "choice a{coin 1 for 1;}choice b{coin 2 for 1;}default b;");
        event(0, 5, "choice a{coin 100 for 1;}");
        event(0, 5, "coin 1000 for 1;");
        fine("chosen by default", x.chosen(0, 0), 1);
        refused("chosen without a default", x.chosen(1, 0), 5);
        refused("chosen without choices", x.chosen(2, 0), 5);
        fine("stays", x.stays(1, 0, 0), 0);
        fine("coin", x.coin(0, 0, 5), 10020);

        sentence("CHOICES, at most 60");
        holders(10);
        event(0, 5, "choice a{}choice b{}");
        for (int i = 0; i < 60; i++) {
            fine("choose", x.choose(0, 0, i < 59 ? 0 : 1, 5, 0), i);
        }
        refused("choose, a 61st", x.choose(0, 0, 0, 5, 0), 3);
        fine("chosen by the 60th", x.chosen(0, 0), 1);
        refused("bears of the 60th", x.bears(59), 5);
        refused("bears of a 61st", x.bears(60), 1);
        fine("strike of the 60th", x.strike(2, 59, 0));
        fine("chosen", x.chosen(0, 0), 0);

        sentence("the one said latest (of those said on one day the later one) that comes up in time counts");
        holders(10);
        event(0, 5, 5, 8, "choice a{}choice b{}choice c{}");
        x.choose(0, 0, 1, 7, 0);
        fine("chosen", x.chosen(0, 0), 1);
        x.choose(0, 0, 0, 6, 0);
        fine("chosen: said a day ahead", x.chosen(0, 0), 1);
        x.choose(0, 0, 2, 7, 0);
        fine("chosen: of one day the later one", x.chosen(0, 0), 2);
        x.choose(0, 0, 0, 9, 0);
        fine("chosen: not in time", x.chosen(0, 0), 2);
        x.choose(0, 0, 0, 8, 0);
        fine("chosen: on LAST", x.chosen(0, 0), 0);
        refused("choose on day -1", x.choose(0, 0, 0, -1, 0), 2);
        refused("choose on day 40,001", x.choose(0, 0, 0, DAYS + 1, 0), 2);
        refused("choose of no choice", x.choose(0, 0, 3, 5, 0), 1);
        refused("choose of choice -1", x.choose(0, 0, -1, 5, 0), 1);
        fine("choose on day 0", x.choose(0, 0, 0, 0, 0), 5);
        fine("choose on day 40,000", x.choose(0, 0, 0, DAYS, 0), 6);
    }

    /** A chain of hands: 0 at the top, 1 under it, 2 under that. */
    private static void chain(int lead0, int delay0, int lead1, int delay1) {
        x.account(NONE, lead0, delay0);
        x.account(0, lead1, delay1);
        x.account(1, 30, 30);
        event(0, 100, 100, 100, "choice a{}");
    }

    private static void inTime() {
        sentence("in time if that is not behind LAST");
        chain(0, 3, 0, 4);
        x.choose(0, 2, 0, 94, 0);
        refused("chosen: by its HAND and that one's HAND, a day late", x.chosen(0, 2), 5);
        x.choose(0, 2, 0, 93, 0);
        fine("chosen on LAST", x.chosen(0, 2), 0);
        x.choose(0, 1, 0, 98, 0);
        refused("chosen: by its HAND, a day late", x.chosen(0, 1), 5);
        x.choose(0, 1, 0, 97, 0);
        fine("chosen on LAST", x.chosen(0, 1), 0);
        x.choose(0, 0, 0, 98, 0);
        refused("chosen: a TOP one by its own DELAY, a day late", x.chosen(0, 0), 5);
        x.choose(0, 0, 0, 97, 0);
        fine("chosen on LAST", x.chosen(0, 0), 0);

        sentence("It was GOOD, if it was said not behind LAST less all LEADS on the way (of the ACCOUNT's HAND and those above; of a TOP account none but its own).");
        chain(5, 20, 7, 0);
        fine("choose", x.choose(0, 2, 0, 88, 0), 0);
        fine("bears: on LAST less 12", x.bears(0), 0);
        fine("choose", x.choose(0, 2, 0, 89, 0), 1);
        refused("bears: a day behind that", x.bears(1), 5);
        x.choose(0, 1, 0, 95, 0);
        fine("bears: on LAST less 5", x.bears(2), 0);
        x.choose(0, 1, 0, 96, 0);
        refused("bears: a day behind that", x.bears(3), 5);
        x.choose(0, 0, 0, 95, 0);
        fine("bears: a TOP one, on LAST less 5", x.bears(4), 0);
        x.choose(0, 0, 0, 96, 0);
        refused("bears: a day behind that", x.bears(5), 5);
        x.choose(0, 2, 0, 80, 0);
        refused("bears: in time on LAST", x.bears(6), 5);
        x.choose(0, 2, 0, 81, 0);
        fine("bears: a day late", x.bears(7), 0);

        sentence("that HAND BEARS it which is the first on the way up whose DELAY is above its LEAD");
        chain(5, 20, 7, 7);
        x.choose(0, 2, 0, 88, 0);
        fine("bears: a DELAY as long as the LEAD is not above it", x.bears(0), 0);
        x = new ShareLife();
        chain(5, 20, 7, 8);
        x.choose(0, 2, 0, 88, 0);
        fine("bears: the first of two", x.bears(0), 1);
        x = new ShareLife();
        chain(5, 5, 7, 8);
        x.choose(0, 2, 0, 88, 0);
        fine("bears: the only one, of a day more", x.bears(0), 1);
        x.choose(0, 1, 0, 95, 0);
        refused("bears: in time by the hand above alone", x.bears(1), 5);
        refused("bears of no CHOICE", x.bears(2), 1);
        x.strike(2, 0, 1);
        refused("bears of one that is struck", x.bears(0), 7);
    }

    private static void cutting() {
        sentence("MOST: if all T of a choice together are above its number, it is cut back");
        holders(3, 4);
        event(0, 5, "choice a{most 7 rata;}default a;");
        event(0, 5, "choice a{most 6 rata;}default a;");
        event(0, 5, "choice a{most 0 rata;coin 1 for 1;}default a;");
        event(0, 5, "choice a{most 9999999 rata;}default a;");
        stay(0, 0, 3, 4);
        stay(1, 0, 3, 3);
        stay(2, 0, 0, 0);
        fine("coin of none", x.coin(1, 0, 5), 0);
        stay(3, 0, 3, 4);
        x = new ShareLife();
        x.account(NONE, 0, 0);
        x.account(0, 0, 0);
        x.account(1, 0, 0);
        for (int i = 0; i < 3; i++) {
            x.issue(i, 0, 1, 2, 0, 0);
        }
        event(0, 5, "choice a{most 6 rata;}default a;");
        event(0, 5, "choice a{most 5 rata;}default a;");
        event(0, 5, "choice a{most 7 rata;}default a;");
        stay(0, 0, 2, 2, 2);
        stay(1, 0, 2, 2, 1);
        stay(2, 0, 2, 2, 2);

        sentence("by rata each TOP account's T to the number times T by all T, rounded down, and those left one by one to the greatest rests (of like ones the lesser account)");
        holders(3, 3, 3);
        event(0, 5, "choice a{most 4 rata;}default a;");
        event(0, 5, "choice a{most 5 rata;}default a;");
        event(0, 5, "choice a{most 3 rata;}default a;");
        stay(0, 0, 2, 1, 1);
        stay(1, 0, 2, 2, 1);
        stay(2, 0, 1, 1, 1);
        x = new ShareLife();
        holders(1, 6);
        event(0, 5, "choice a{most 3 rata;}default a;");
        stay(0, 0, 0, 3);
        x = new ShareLife();
        holders(3, 5);
        event(0, 5, "choice a{most 4 rata;}default a;");
        stay(0, 0, 2, 2);
        x = new ShareLife();
        holders(5, 3);
        event(0, 5, "choice a{most 4 rata;}default a;");
        stay(0, 0, 3, 1);

        sentence("by small first each T not above the small number stays whole, account by account, where it fits in what is left of the number; the others get what is left then by rata");
        holders(2, 3, 5);
        event(0, 5, "choice a{most 4 small 3;}default a;");
        event(0, 5, "choice a{most 4 small 2;}default a;");
        event(0, 5, "choice a{most 4 small 1;}default a;");
        event(0, 5, "choice a{most 4 small 0;}default a;");
        event(0, 5, "choice a{most 5 small 3;}default a;");
        event(0, 5, "choice a{most 10 small 1;}default a;");
        stay(0, 0, 2, 1, 1);
        stay(1, 0, 2, 1, 1);
        stay(2, 0, 1, 1, 2);
        stay(3, 0, 1, 1, 2);
        stay(4, 0, 2, 3, 0);
        stay(5, 0, 2, 3, 5);
        x = new ShareLife();
        holders(3, 4, 1);
        event(0, 5, "choice a{most 4 small 4;}default a;");
        stay(0, 0, 3, 0, 1);
        x = new ShareLife();
        holders(1, 1, 3, 3, 0);
        event(0, 5, "choice a{most 4 small 1;}default a;");
        event(0, 5, "choice a{most 3 small 1;}default a;");
        stay(0, 0, 1, 1, 1, 1, 0);
        stay(1, 0, 1, 1, 1, 0, 0);
    }

    private static void cutAway() {
        sentence("Below a TOP account what stays is parted as in 4.");
        x.account(NONE, 0, 0);
        x.account(0, 0, 0);
        x.account(0, 0, 0);
        for (int i = 0; i < 3; i++) {
            x.issue(i, 0, 1, 3, 0, 0);
        }
        event(0, 5, "choice a{most 5 rata;}default a;");
        stay(0, 0, 2, 2, 1);

        sentence("What is cut is CHOSEN as the default (if the cut one is that, or there is none: as nothing); cuts are by what was CHOSEN ahead of all cuts.");
        holders(10, 6);
        event(0, 5, "choice a{most 4 rata;}choice b{most 6 rata;}default b;");
        event(0, 5, "choice a{most 4 rata;}choice b{most 5 rata;}default b;");
        event(0, 5, "choice a{most 4 rata;}choice b{}");
        event(0, 5, "choice a{}choice b{most 5 rata;}default b;");
        for (int event = 0; event < 3; event++) {
            x.choose(event, 0, 0, 5, 0);
        }
        stay(0, 0, 4, 0);
        stay(0, 1, 6, 6);
        stay(1, 0, 4, 0);
        stay(1, 1, 6, 5);
        stay(2, 0, 4, 0);
        stay(2, 1, 0, 0);
        stay(3, 0, 0, 0);
        stay(3, 1, 3, 2);
        fine("chosen ahead of cuts", x.chosen(1, 0), 0);

        sentence("CLAUSES of a choice go by the T of it, behind cuts, and are done for a TOP account only if that is above 0");
        holders(1, 9);
        event(0, 5, "choice a{most 3 rata;coin 5 for 1;fraction up;}default a;give 1 of 1 for 2;");
        fine("coin of a T of 0", x.coin(0, 0, 5), 0);
        fine("coin of a T of 3", x.coin(1, 0, 5), 15);
        owns(1, 5, 0, 5);
    }

    private static void fractions() {
        sentence("down: gone; up: one more if there is any; near: one more if it is a half or more; coin c: c times it in pennies, rounded down.");
        String[] rules = {"down", "up", "near", "coin 7"};
        long[][] gives = {{0, 0, 0, 0, 1, 1}, {0, 1, 1, 1, 1, 2}, {0, 0, 1, 1, 1, 1}, {0, 0, 0, 0, 1, 1}};
        long[] pennies = {0, 1, 3, 5, 0, 1};
        for (int rule = 0; rule < rules.length; rule++) {
            for (int shares = 1; shares < 6; shares++) {
                x = new ShareLife();
                holders(shares);
                event(0, 5, "fraction " + rules[rule] + ";give 1 of 1 for 4;");
                fine("own of " + shares + " by " + rules[rule], x.own(0, 1, 5), gives[rule][shares]);
                fine("coin of " + shares + " by " + rules[rule], x.coin(0, 0, 5), rule == 3 ? pennies[shares] : 0);
            }
        }
        x = new ShareLife();
        holders(1, 2);
        event(0, 5, "fraction near;give 1 of 1 for 3;fraction coin 9999999;give 1 of 2 for 1000;fraction coin 0;give 1 of 3 for 2;");
        owns(1, 5, 0, 1);
        fine("coin of 9,999,999 by 1,000", x.coin(0, 0, 5), 9999);
        fine("coin of twice that", x.coin(1, 0, 5), 19999);

        sentence("(The rule is that of the CLAUSE fraction done latest for that TOP account in this EVENT; down at first.)");
        holders(3, 5);
        event(0, 5, "give 1 of 1 for 2;when has > 4{fraction up;}give 1 of 2 for 2;fraction down;give 1 of 3 for 2;");
        event(0, 6, "give 1 of 4 for 2;");
        owns(1, 5, 1, 2);
        owns(2, 5, 1, 3);
        owns(3, 5, 1, 2);
        owns(4, 6, 1, 2);

        sentence("take m for n: T m by n of the PAPER go, rounded down. coin, pay: m pennies for n, of T, rounded down, come, go (coin may be below 0).");
        holders(1, 2, 3, 0);
        event(0, 5, "take 2 for 3;");
        event(0, 4, "coin 5 for 3;");
        event(0, 3, "pay 5 for 2;");
        owns(0, 5, 1, 1, 1, 0);
        long[] paid = {-2, -5, -7, 0};
        long[] came = {1, 3, 5, 0};
        for (int i = 0; i < 4; i++) {
            fine("coin behind pay", x.coin(i, 0, 3), paid[i]);
            fine("coin behind coin", x.coin(i, 0, 4), paid[i] + came[i]);
        }
        fine("coin of -1 with STATUS 0", x.coin(0, 0, 4), -1);
    }

    private static void worths() {
        sentence("of each account's own WORTH of the PAPER x by 1,000, rounded down, goes to its WORTH of PAPER q");
        tops(1);
        x.issue(0, 0, 1, 1, 999, 0);
        event(0, 2, "worth 1 to 1;");
        event(0, 3, "worth 0 to 1;");
        event(0, 4, "worth 999 to 2;");
        event(0, 5, "worth 1000 to 0;");
        event(0, 6, "worth 1000 to 3;");
        fine("worth of 999 less nothing", x.worth(0, 0, 2), 999);
        fine("worth that went", x.worth(0, 1, 3), 0);
        fine("worth of 999 by 999", x.worth(0, 2, 4), 998);
        fine("worth to itself", x.worth(0, 0, 5), 1);
        fine("worth of all", x.worth(0, 3, 6), 1);
        fine("worth that is left", x.worth(0, 0, 6), 0);

        sentence("(of a choice's CLAUSE: of each account with own shares in it behind cuts; outside: of all; as it is then)");
        x.account(NONE, 0, 0);
        x.account(0, 0, 0);
        x.account(NONE, 0, 0);
        x.issue(0, 0, 1, 1, 1000, 0);
        x.issue(1, 0, 1, 9, 1000, 0);
        x.issue(2, 0, 1, 10, 1000, 0);
        event(0, 2, "choice a{most 9 rata;worth 500 to 1;}default a;worth 500 to 2;worth 500 to 3;");
        stay(0, 0, 1, 4, 4);
        fine("worth of 1 of 1 share in it", x.worth(0, 1, 2), 500);
        event(0, 3, "choice a{most 2 rata;worth 500 to 4;}default a;worth 500 to 5;");
        stay(1, 0, 0, 1, 1);
        fine("worth of no share in it", x.worth(0, 4, 3), 0);
        fine("worth of one in it", x.worth(1, 4, 3), 62);
        fine("worth outside", x.worth(0, 5, 3), 62);
        fine("worth as it is then", x.worth(0, 2, 2), 250);
        fine("worth as it is then", x.worth(0, 3, 2), 125);
        fine("worth left", x.worth(0, 0, 2), 125);
    }

    private static void whens() {
        sentence("when has: TOTAL of the TOP account ahead of the EVENT.");
        x.account(NONE, 0, 0);
        x.account(0, 0, 0);
        x.issue(0, 0, 1, 2, 0, 0);
        x.issue(1, 0, 1, 3, 0, 0);
        event(0, 2, "give 1 of 0 for 1;when has>5{coin 100 for 5;}when has>4{coin 10 for 5;}");
        event(0, 1, "when has<5{coin 1000 for 5;}else{coin 1 for 5;}when has<6{coin 5 for 5;}");
        fine("coin of both", x.coin(0, 0, 1) + x.coin(1, 0, 1), 6);
        fine("coin of both", x.coin(0, 0, 2) + x.coin(1, 0, 2), 16);
        event(0, 3, "choice a{when has>9{coin 20 for 1;}else{coin 1 for 1;}}");
        x.choose(2, 0, 0, 3, 0);
        fine("coin of a choice: TOTAL, not T", x.coin(0, 0, 3) - x.coin(0, 0, 2), 80);
        for (int has = 1; has <= 4; has++) {
            x = new ShareLife();
            holders(has);
            event(0, 2, "when has>1{when has>2{when has>3{}else{}coin 9 for 1;}else{coin 5 for 1;}coin 1 for 1;}else{coin 3 for 1;}");
            long[] each = {3, 6, 10, 10};
            fine("coin of whens in whens", x.coin(0, 0, 2), has * each[has - 1]);
        }
        x = new ShareLife();
        tops(1);
        event(0, 5, "when has<1{when has>0{fraction up;}else{worth 1000 to 1;}}");
        x.issue(0, 0, 6, 1, 9, 0);
        fine("coin: nothing had, nothing realized", x.coin(0, 1, 6), 0);

        sentence("All takes of a TOP account for one choice (or of those outside) together are at most its T, and go at once.");
        holders(7, 8);
        event(0, 5, "take 1 for 2;take 1 for 2;");
        event(0, 4, "choice a{take 3 for 4;take 3 for 4;}choice b{take 1 for 2;}default b;");
        x.choose(1, 0, 0, 4, 0);
        owns(0, 4, 0, 4);
        owns(0, 5, 0, 0);
        x = new ShareLife();
        holders(7, 8);
        event(0, 5, "take 1 for 2;take 1 for 2;");
        owns(0, 5, 1, 0);
        x = new ShareLife();
        holders(7, 8);
        event(0, 5, times("take 1 for 1;", 30));
        owns(0, 5, 0, 0);

        sentence("What comes and goes is by T ahead of the EVENT, and counts behind it.");
        holders(6, 0);
        event(0, 5, "give 1 of 0 for 1;give 1 of 0 for 2;take 1 for 1;coin 1 for 1;");
        owns(0, 5, 9, 0);
        fine("coin of T", x.coin(0, 0, 5), 6);
    }

    private static void worthLeft() {
        sentence("If of an account's own shares of the PAPER none are left, and WORTH is left, it goes to that of the first PAPER of which the EVENT gave it any share; if there is none, it is REALIZED.");
        x.account(NONE, 0, 0);
        x.account(0, 0, 0);
        x.issue(0, 0, 1, 1, 10, 0);
        x.issue(1, 0, 1, 2, 20, 0);
        event(0, 5, "give 1 of 3 for 3;give 2 of 2 for 3;give 3 of 1 for 3;take 1 for 1;");
        owns(3, 5, 0, 1);
        owns(2, 5, 1, 1);
        fine("worth of the first given to account 1", x.worth(1, 3, 5), 20);
        fine("worth of the first given to account 0", x.worth(0, 2, 5), 10);
        fine("worth of the second given", x.worth(1, 2, 5), 0);
        fine("coin realized", x.coin(1, 1, 5), 0);
        x = new ShareLife();
        tops(2);
        x.issue(0, 0, 1, 4, 10, 0);
        x.issue(1, 0, 1, 5, 10, 0);
        event(0, 5, "give 1 of 1 for 6;take 4 for 4;coin 1 for 1;");
        fine("coin realized of a fraction that is gone", x.coin(0, 1, 5), 10);
        fine("worth realized", x.worth(0, 0, 5), 0);
        x = new ShareLife();
        tops(1);
        x.issue(0, 0, 1, 4, 10, 0);
        event(0, 5, "take 3 for 4;");
        event(0, 6, "take 1 for 1;give 1 of 0 for 1;");
        event(0, 7, "worth 1000 to 2;take 1 for 1;");
        fine("coin realized with one left", x.coin(0, 1, 5), 0);
        fine("coin realized with one come again", x.coin(0, 1, 6), 0);
        fine("worth with one come again", x.worth(0, 0, 6), 10);
        fine("coin realized of no worth", x.coin(0, 1, 7), 0);
        fine("worth that went ahead", x.worth(0, 2, 7), 10);
    }

    // ---- 4. PARTED

    private static void parting() {
        sentence("among its own part and the accounts right under it (by numbers, its own ahead), each by its own t of T: what comes times t by T, rounded down, and those left one by one to the greatest rests (of like ones the one ahead); and so on under these.");
        x.account(NONE, 0, 0);
        x.account(0, 0, 0);
        x.account(0, 0, 0);
        for (int i = 0; i < 3; i++) {
            x.issue(i, 0, 1, 1, 0, 0);
        }
        event(0, 5, "give 1 of 1 for 3;give 2 of 2 for 3;give 4 of 3 for 3;coin 5 for 3;");
        owns(1, 5, 1, 0, 0);
        owns(2, 5, 1, 1, 0);
        owns(3, 5, 2, 1, 1);
        fine("coin", x.coin(0, 0, 5), 2);
        fine("coin", x.coin(1, 0, 5), 2);
        fine("coin", x.coin(2, 0, 5), 1);
        x = new ShareLife();
        x.account(NONE, 0, 0);
        x.account(0, 0, 0);
        x.account(0, 0, 0);
        x.account(1, 0, 0);
        for (int i = 1; i < 4; i++) {
            x.issue(i, 0, 1, 1, 0, 0);
        }
        event(0, 5, "give 2 of 1 for 3;give 1 of 2 for 3;pay 2 for 3;");
        owns(1, 5, 0, 1, 1, 0);
        owns(2, 5, 0, 1, 0, 0);
        fine("coin: what goes is parted as what comes", x.coin(1, 0, 5), -1);
        fine("coin", x.coin(2, 0, 5), -1);
        fine("coin", x.coin(3, 0, 5), 0);
        fine("coin of one without shares", x.coin(0, 0, 5), 0);
        manyParts();
    }

    /** Nineteen right under one, each with a share: those ahead get what is left. */
    private static void manyParts() {
        x = new ShareLife();
        x.account(NONE, 0, 0);
        x.issue(0, 0, 1, 1, 0, 0);
        for (int i = 1; i < 20; i++) {
            x.account(0, 0, 0);
            x.issue(i, 0, 1, 1, 0, 0);
        }
        event(0, 5, "give 19 of 1 for 20;give 1 of 2 for 20;take 19 for 20;");
        for (int i = 0; i < 20; i++) {
            fine("own of account " + i, x.own(i, 1, 5), i < 19 ? 1 : 0);
            fine("own of account " + i, x.own(i, 2, 5), i < 1 ? 1 : 0);
            fine("own of account " + i, x.own(i, 0, 5), i < 19 ? 0 : 1);
        }
    }

    // ---- 5. DUE, OPTIONS

    private static void dues() {
        sentence("if it was dealt ahead of the EX day and settled behind RECORD, the seller owes the buyer; if it was dealt on the EX day or behind and settled not behind RECORD, the buyer owes the seller");
        holders(100, 0);
        int[][] days = {{9, 13, 1}, {9, 12, 0}, {10, 12, -1}, {10, 13, 0}, {11, 12, -1}, {12, 12, -1}, {13, 13, 0}, {0, DAYS, 1}, {0, 0, 0}};
        for (int[] d : days) {
            x.trade(0, 1, 0, d[1] == 0 ? 100 : 1, d[0], d[1], 0);
        }
        event(0, 10, 12, 12, "coin 7 for 1;");
        for (int i = 0; i + 1 < days.length; i++) {
            fine("due of dealt " + days[i][0] + ", settled " + days[i][1], x.due(i, 0, NONE), 7L * days[i][2]);
        }
        refused("due of one that failed", x.due(days.length - 1, 0, NONE), 7);
        x = new ShareLife();
        holders(100, 0);
        x.trade(0, 1, 0, 1, 9, 10, 0);
        x.trade(0, 1, 0, 1, 9, 9, 0);
        x.trade(0, 1, 0, 1, 10, 10, 0);
        x.trade(0, 1, 0, 1, 5, 5, 0);
        event(0, 10, 5, 5, "coin 1 for 1;");
        fine("due of RECORD ahead of EX", x.due(0, 0, NONE), 1);
        fine("due of RECORD ahead of EX", x.due(1, 0, NONE), 1);
        fine("due of dealt on EX, settled behind RECORD", x.due(2, 0, NONE), 0);
        fine("due of settled on RECORD", x.due(3, 0, NONE), 0);

        sentence("what the TEXT gives for a TOP account with as many shares, and that in all (shares of each PAPER; pennies, less those to pay)");
        holders(100, 0);
        x.trade(0, 1, 0, 5, 9, 13, 0);
        event(0, 10, "give 1 of 0 for 2;give 1 of 3 for 4;give 1 of 0 for 5;fraction coin 8;give 1 of 3 for 2;coin 3 for 2;pay 9 for 4;");
        event(0, 10, "pay 1 for 5;when has<5{coin 100 for 1;}when has>5{coin 100 for 1;}");
        fine("due of the PAPER", x.due(0, 0, 0), 3);
        fine("due of another", x.due(0, 0, 3), 3);
        fine("due of one not given", x.due(0, 0, 19), 0);
        fine("due in pennies", x.due(0, 0, NONE), 4 + 7 - 11);
        fine("due of -1 with STATUS 0", x.due(0, 1, NONE), -1);
        refused("due of PAPER 20", x.due(0, 0, 20), 1);
        refused("due of PAPER -2", x.due(0, 0, -2), 1);
    }

    private static void optionEdges() {
        sentence("OPTIONS, at most 10: on a PAPER, from a day on, STRIKE (1 to 1,000,000) for a NUMBER (1 to 10,000).");
        refused("option with strike 0", x.option(0, 1, 0, 1, 0), 2);
        refused("option with strike 1,000,001", x.option(0, 1, 1000001, 1, 0), 2);
        refused("option with number 0", x.option(0, 1, 1, 0, 0), 2);
        refused("option with number 10,001", x.option(0, 1, 1, 10001, 0), 2);
        for (int i = 0; i < 10; i++) {
            fine("option", x.option(19, DAYS, i < 9 ? 1 : 1000000, i < 9 ? 1 : 10000, 0), i);
        }
        refused("option, an 11th", x.option(0, 1, 1, 1, 0), 3);
        fine("term of the 10th", x.term(9, 0, DAYS));
        due("upper", x.upper(), 1000000);
        fine("term of the 10th", x.term(9, 1, DAYS));
        due("upper", x.upper(), 10000);
        due("lower", x.lower(), 1);
        refused("term of an 11th", x.term(10, 0, DAYS), 1);
        refused("optionOn a day ahead of its own", x.optionOn(9, DAYS - 1), 2);

        sentence("EVENTS of the PAPER it is on, with RECORD on that day or behind, without choices and whens, change it");
        x.option(0, 5, 12, 12, 0);
        event(0, 14, 4, 4, "give 1 of 0 for 1;");
        number(0, 5, 12, 1);
        event(0, 1, 5, 5, "give 1 of 0 for 2;");
        number(0, 5, 18, 1);
        event(1, 6, "give 1 of 0 for 1;take 1 for 1;");
        event(0, 6, "give 1 of 0 for 1;choice a{}");
        event(0, 6, "give 1 of 0 for 1;when has>0{}");
        event(0, 6, "give 1 of 1 for 1;coin 1 for 1;worth 9 to 1;");
        number(0, 6, 18, 1);
        event(0, 7, "give 1 of 0 for 3;");
        number(0, 6, 18, 1);
        number(0, 7, 24, 1);
        x = new ShareLife();
        x.option(0, 5, 12, 12, 0);
        event(0, 5, "give 1 of 0 for 1;");
        event(0, 5, "when has>0{}give 1 of 0 for 1;");
        event(0, 5, "choice a{}give 1 of 0 for 1;");
        number(0, 5, 24, 1);
        for (int i = 3; i < 16; i++) {
            event(0, 6, "give 1 of 0 for 1;");
        }
        number(0, 6, 24 << 13, 1);
        x = new ShareLife();
        x.option(0, 5, 1, 3, 0);
        for (int i = 0; i < 16; i++) {
            event(0, 5 + i, "give 1 of 0 for 1;");
        }
        number(0, 20, 3 << 16, 1);
    }

    /** An option's NUMBER at the end of a day is due to be so. */
    private static void number(int option, int day, long upper, long lower) {
        fine("term of the NUMBER on day " + day, x.term(option, 1, day));
        due("upper", x.upper(), upper);
        due("lower", x.lower(), lower);
    }

    private static void optionChanges() {
        sentence("if the TEXT takes all (m for m), and gives any: to the first PAPER given, NUMBER times m by n of that give; else, if it gives of its own PAPER or takes of it: NUMBER times (1 and gives less takes)");
        x.option(0, 1, 12, 12, 0);
        event(0, 2, "give 2 of 1 for 3;take 1000 for 1000;give 5 of 2 for 1;");
        fine("optionOn the first given", x.optionOn(0, 2), 1);
        number(0, 2, 8, 1);
        fine("term of the STRIKE", x.term(0, 0, 2));
        due("upper", x.upper(), 18);
        event(1, 3, "take 999 for 1000;give 5 of 2 for 1;");
        fine("optionOn the same, as not all is taken", x.optionOn(0, 3), 1);
        number(0, 3, 1, 125);
        event(1, 4, "take 1 for 2;give 3 of 1 for 4;give 7 of 3 for 1;");
        number(0, 4, 1, 100);
        event(1, 5, "take 1 for 1;give 1 of 1 for 1;");
        fine("optionOn its own PAPER given for all", x.optionOn(0, 5), 1);
        number(0, 5, 1, 100);

        sentence("(If nothing would be left it ends.)");
        x.option(0, 1, 12, 12, 0);
        x.option(1, 1, 12, 12, 0);
        x.option(2, 1, 12, 12, 0);
        event(0, 2, "take 1 for 2;take 1 for 2;give 1 of 5 for 1;");
        event(1, 2, "take 1 for 2;take 1 for 2;take 1 for 2;");
        event(2, 2, "take 1 for 1;");
        event(0, 3, "give 1 of 0 for 1;");
        for (int option = 0; option < 3; option++) {
            fine("optionOn a day ahead", x.optionOn(option, 1), option);
            refused("optionOn behind its end", x.optionOn(option, 2), 5);
            refused("term behind its end", x.term(option, 0, DAYS), 5);
        }
        x.option(3, 1, 12, 12, 0);
        event(3, 2, "take 1 for 2;take 499 for 1000;");
        number(3, 2, 3, 250);
    }

    private static void fractionTold() {
        sentence("The upper number of the FRACTION told latest with STATUS 0, without a common divisor with the lower one.");
        due("upper at first", x.upper(), 0);
        due("lower at first", x.lower(), 1);
        x.option(0, 1, 6, 4, 0);
        refused("term of what 2", x.term(0, 2, 1), 2);
        refused("term of what -1", x.term(0, -1, 1), 2);
        due("upper behind a refused one", x.upper(), 0);
        event(0, 2, "give 7 of 0 for 2;");
        fine("term", x.term(0, 0, 2));
        due("upper", x.upper(), 4);
        due("lower", x.lower(), 3);
        fine("term", x.term(0, 1, 2));
        due("upper", x.upper(), 18);
        due("lower", x.lower(), 1);
        refused("term of no option", x.term(1, 0, 2), 1);
        due("upper still", x.upper(), 18);
        x.asof(0);
        x.option(0, 1, 6, 4, 1);
        refused("term of one not known then", x.term(1, 0, 2), 7);
        due("upper still", x.upper(), 18);
        x.upper();
        due("status: upper has none", x.status(), 7);
    }

    // ---- 6. NAMES, HINTS

    private static void names() {
        sentence("NAMES: a PAPER is called by a number (0 to 9,999) from a day on; CALLED on a day it is by that which began latest then.");
        refused("name -1", x.name(0, -1, 5, 0), 2);
        refused("name 10,000", x.name(0, 10000, 5, 0), 2);
        fine("name 0", x.name(0, 0, 5, 0));
        fine("name 9,999", x.name(0, 9999, 7, 0));
        fine("name told later, begun ahead", x.name(0, 5, 6, 0));
        refused("called a day ahead of all", x.called(0, 4), 5);
        fine("called on the first day", x.called(0, 5), 0);
        fine("called", x.called(0, 6), 5);
        fine("called on the day that it began", x.called(0, 7), 9999);
        fine("called on the last day", x.called(0, DAYS), 9999);
        refused("called of one without a name", x.called(1, 7), 5);
        refused("called of PAPER 20", x.called(20, 7), 1);
        refused("called on day 40,001", x.called(0, DAYS + 1), 2);

        sentence("A PAPER is called so from a day on (1; 2; 3: 60 in all; 4).");
        for (int i = 0; i < 60; i++) {
            fine("name", x.name(i % 20, i, i, 0));
        }
        refused("name, a 61st", x.name(0, 1, 1, 0), 3);
        refused("name of no PAPER", x.name(20, 1, 1, 0), 1);
        fine("called by the 60th", x.called(19, 59), 59);

        sentence("The k-th PAPER, by numbers, that is CALLED so on a day (2; 5).");
        refused("find where there are no names", x.find(0, 0, 0), 5);
        for (int paper = 19; paper >= 0; paper--) {
            x.name(paper, 9999, 5, 0);
        }
        x.name(3, 1, 6, 0);
        fine("find the first", x.find(9999, 5, 0), 0);
        fine("find the last", x.find(9999, 5, 19), 19);
        refused("find a 21st", x.find(9999, 5, 20), 5);
        refused("find below the first", x.find(9999, 5, -1), 5);
        refused("find far below", x.find(9999, 5, LEAST), 5);
        refused("find far beyond", x.find(9999, 5, GREATEST), 5);
        fine("find past one called otherwise", x.find(9999, 6, 3), 4);
        refused("find a 20th then", x.find(9999, 6, 19), 5);
        refused("find a day ahead", x.find(9999, 4, 0), 5);
        refused("find 10,000", x.find(10000, 5, 0), 2);
        refused("find -1", x.find(-1, 5, 0), 2);
        refused("find on day -1", x.find(9999, -1, 0), 2);
    }

    private static void hints() {
        sentence("HINTS, at most 12, numbered as they come");
        for (int i = 0; i < 12; i++) {
            fine("hint", x.hint(0, 0, 5, 2, 1, i % 2 == 0), i);
        }
        refused("hint, a 13th", x.hint(0, 0, 5, 1, 1, false), 3);
        fine("explain by all", x.explain(0, 1, 4, 0, 4096, 5), 6);
        fine("because of the last", x.because(5), 11);

        sentence("A HINT more: its number (1; 2: days, m, n 1 to 1,000; 3).");
        fine("hint", x.hint(0, 19, 0, 1, 1000, true), 0);
        fine("hint", x.hint(19, 0, DAYS, 1000, 1, true), 1);
        refused("hint from PAPER 20", x.hint(20, 0, 1, 1, 1, true), 1);
        refused("hint to PAPER -1", x.hint(0, -1, 1, 1, 1, true), 1);
        refused("hint on day -1", x.hint(0, 0, -1, 1, 1, true), 2);
        refused("hint on day 40,001", x.hint(0, 0, DAYS + 1, 1, 1, true), 2);
        refused("hint with m 0", x.hint(0, 0, 1, 0, 1, true), 2);
        refused("hint with m 1,001", x.hint(0, 0, 1, 1001, 1, true), 2);
        refused("hint with n 0", x.hint(0, 0, 1, 1, 0, true), 2);
        refused("hint with n 1,001", x.hint(0, 0, 1, 1, 1001, true), 2);

        sentence("on a day x of a PAPER may all have become x m by n, rounded down, of another PAPER (or of the same); SURE or not.");
        x.hint(0, 1, 5, 2, 3, true);
        x.hint(1, 1, 6, 1, 2, false);
        long[] third = {0, 1, 2, 2, 3};
        for (int shares = 1; shares <= 5; shares++) {
            fine("explain", x.explain(0, shares, 4, 1, (int) third[shares - 1], 5), 0);
        }
        fine("explain by two, of the same PAPER", x.explain(0, 5, 4, 1, 1, 6), 1);
        fine("explain to nothing", x.explain(0, 1, 4, 1, 0, 6), 0);
        refused("explain to less than nothing", x.explain(0, 1, 4, 1, -1, 6), 5);
    }

    private static void explaining() {
        sentence("going by days (of one day by numbers) from that day on (not it) to the later one (it too), each HINT that is SURE, or in the set, turns what there is, if that is of its PAPER");
        x.hint(0, 1, 5, 2, 1, true);
        x.hint(1, 2, 7, 3, 1, true);
        x.hint(2, 3, 7, 5, 1, true);
        x.hint(2, 4, 6, 7, 1, true);
        fine("explain from the day itself", x.explain(0, 1, 5, 0, 1, 40), 0);
        fine("explain from a day ahead", x.explain(0, 1, 4, 1, 2, 6), 0);
        fine("explain to the later day", x.explain(0, 1, 4, 3, 30, 7), 0);
        fine("explain to the day itself", x.explain(0, 1, 4, 1, 2, 5), 0);
        refused("explain past a SURE one", x.explain(0, 1, 4, 0, 1, 5), 5);
        x = new ShareLife();
        x.hint(1, 2, 5, 1, 1, true);
        x.hint(0, 1, 5, 1, 1, true);
        fine("explain: of one day by numbers", x.explain(0, 1, 4, 1, 1, 9), 0);

        sentence("(one in the set that does not find its PAPER, or more than 1,000,000,000,000 shares on the way: no explanation)");
        x.hint(0, 1, 5, 1000, 1, false);
        x.hint(1, 2, 6, 1000, 1, false);
        x.hint(2, 3, 7, 1, 1000, true);
        x.hint(0, 2, 6, 1000, 999, false);
        fine("explain by 1,000,000,000,000 on the way", x.explain(0, 1000000, 4, 3, 1000000000, 7), 2);
        x.hint(2, 2, 6, 1000, 999, true);
        refused("explain by more on the way", x.explain(0, 1000000, 4, 3, 1001001001, 7), 5);
        fine("explain: one in the set must find its PAPER", x.explain(0, 1, 4, 2, 1, 6), 1);
        fine("because", x.because(0), 3);
        fine("rivals: none with one in vain", x.rivals(), 1);

        sentence("BEST are the sets with the fewest; RIVALS: how many such sets; the first by numbers (the set with the least HINT that only one of both has).");
        int[] by = {6, 2, 3, 3, 2, 6};
        for (int i = 0; i < by.length; i++) {
            x.hint(0, 0, 20 - i, by[i], 1, false);
        }
        fine("explain by the fewest", x.explain(0, 1, 4, 0, 6, 20), 1);
        fine("rivals", x.rivals(), 2);
        fine("because of the least", x.because(0), 0);
        refused("because of a second", x.because(1), 5);
        fine("explain by two", x.explain(0, 1, 4, 0, 12, 20), 2);
        fine("rivals", x.rivals(), 4);
        fine("because", x.because(0), 0);
        fine("because", x.because(1), 1);
        fine("explain by one only of two days", x.explain(0, 1, 4, 0, 6, 19), 1);
        fine("because", x.because(0), 5);
    }

    private static void explained() {
        sentence("An old paper is EXPLAINED: how many HINTS BEST has (1; 2: shares 1 to 1,000,000, the later day not behind; 5: by none).");
        fine("explain by no HINTS", x.explain(0, 1, 0, 0, 1, DAYS), 0);
        fine("explain of 1,000,000", x.explain(19, 1000000, 0, 19, 1000000, 1), 0);
        refused("explain of 0", x.explain(0, 0, 0, 0, 0, 1), 2);
        refused("explain of 1,000,001", x.explain(0, 1000001, 0, 0, 1000001, 1), 2);
        refused("explain on the same day", x.explain(0, 1, 5, 0, 1, 5), 2);
        refused("explain back in time", x.explain(0, 1, 5, 0, 1, 4), 2);
        fine("explain a day later", x.explain(0, 1, 5, 0, 1, 6), 0);
        refused("explain from day -1", x.explain(0, 1, -1, 0, 1, 4), 2);
        refused("explain to day 40,001", x.explain(0, 1, 5, 0, 1, DAYS + 1), 2);
        refused("explain of PAPER 20", x.explain(20, 1, 5, 0, 1, 6), 1);
        refused("explain to PAPER 20", x.explain(0, 1, 5, 20, 1, 6), 1);
        refused("explain by none", x.explain(0, 1, 5, 0, 2, 6), 5);
        refused("explain by none, of another PAPER", x.explain(0, 1, 5, 1, 1, 6), 5);

        sentence("RIVALS of the explain() latest with STATUS 0 (5).");
        refused("rivals ahead of any", x.rivals(), 5);
        refused("explain by none", x.explain(0, 1, 5, 0, 2, 6), 5);
        refused("rivals behind one with 5", x.rivals(), 5);
        fine("explain by the empty set", x.explain(0, 1, 5, 0, 1, 6), 0);
        fine("rivals", x.rivals(), 1);
        for (int i = 0; i < 12; i++) {
            x.hint(0, 0, 6, 2, 1, false);
        }
        fine("rivals still", x.rivals(), 1);
        fine("explain by six of twelve", x.explain(0, 1, 5, 0, 64, 6), 6);
        refused("explain by none", x.explain(0, 1, 5, 0, 3, 6), 5);
        fine("rivals of the latest with 0", x.rivals(), 924);
        fine("explain by none of twelve", x.explain(0, 1, 5, 0, 1, 6), 0);
        fine("rivals", x.rivals(), 1);
        fine("explain by all twelve", x.explain(0, 1, 5, 0, 4096, 6), 12);
        fine("rivals", x.rivals(), 1);

        sentence("The k-th HINT of its BEST, by numbers (5).");
        refused("because ahead of any", x.because(0), 5);
        x.hint(0, 0, 6, 2, 1, false);
        x.hint(0, 0, 5, 2, 1, false);
        fine("explain by both", x.explain(0, 1, 4, 0, 4, 6), 2);
        fine("because", x.because(0), 0);
        fine("because", x.because(1), 1);
        refused("because of a third", x.because(2), 5);
        refused("because of -1", x.because(-1), 5);
        refused("because of the least int", x.because(LEAST), 5);
        refused("because of the greatest int", x.because(GREATEST), 5);
        fine("explain by none needed", x.explain(0, 1, 6, 0, 1, 7), 0);
        refused("because of the empty set", x.because(0), 5);
    }

    // ---- 7. STATUS

    private static void tooMuch() {
        sentence("8 too much: of a PAPER more than 1,000,000,000 shares in some account's TOTAL behind an EVENT up to that day");
        x.account(NONE, 0, 0);
        x.account(0, 0, 0);
        x.issue(0, 0, 1, 500000, 0, 0);
        x.issue(1, 0, 1, 500000, 7, 0);
        x.trade(0, 1, 0, 1, 5, 5, 0);
        x.trade(0, 1, 0, 1, 5, 7, 0);
        event(0, 5, "give 1000 of 1 for 1;");
        event(1, 6, "choice a{coin 1 for 1;}default a;");
        fine("total of 1,000,000,000", x.total(0, 1, 5), 1000000000);
        fine("own of half of it", x.own(0, 1, 5), 499999000);
        fine("stays", x.stays(1, 0, 0), 499999000);
        x.issue(0, 1, 6, 1, 0, 0);
        refused("total of one more behind an EVENT", x.total(0, 1, 6), 8);
        fine("total a day ahead of it", x.total(0, 1, 5), 1000000000);
        refused("own of another PAPER", x.own(1, 9, 6), 8);
        refused("worth", x.worth(1, 0, DAYS), 8);
        refused("coin", x.coin(1, 0, 6), 8);
        refused("coin", x.coin(1, 1, 6), 8);
        refused("stays", x.stays(1, 0, 0), 8);
        fine("done ahead of it", x.done(0), 1);
        refused("done behind it", x.done(1), 8);
        fine("due of one settled ahead of it", x.due(0, 0, 1), -1000);
        refused("due of one settled behind it", x.due(1, 0, 1), 8);
        fine("chosen has no such STATUS", x.chosen(1, 0), 0);
        refused("own of no account", x.own(2, 0, 6), 1);
        refused("own on no day", x.own(0, 0, DAYS + 1), 2);
        x.strike(1, 1, 1);
        fine("total with no EVENT behind which it is so", x.total(0, 1, 6), 1000000001);
        x.asof(0);
        refused("total as of a day ahead", x.total(0, 1, 6), 8);

        sentence("an OPTION's STRIKE or NUMBER behind some EVENT up to that day (or what gives and takes of one add up to, CLAUSE behind CLAUSE) with a part above 1,000,000,000,000");
        x.option(0, 0, 1, 10000, 0);
        x.option(1, 0, 1000000, 1, 0);
        for (int day = 1; day <= 3; day++) {
            event(0, day, day < 3 ? "give 999 of 0 for 1;" : "give 99 of 0 for 1;");
            event(1, day, day < 3 ? "take 999 for 1000;" : "take 1 for 1000;");
        }
        number(0, 3, 1000000000000L, 1);
        fine("term of the STRIKE, 1,000,000,000,000", x.term(1, 0, 2));
        due("upper", x.upper(), 1000000000000L);
        refused("term of a part above that", x.term(1, 0, 3), 8);
        refused("term of the other part", x.term(1, 1, 3), 8);
        refused("optionOn", x.optionOn(1, 3), 8);
        event(0, 4, "take 1 for 2;");
        event(0, 5, "give 2 of 0 for 1;");
        fine("optionOn", x.optionOn(0, 4), 0);
        refused("optionOn of 1,500,000,000,000", x.optionOn(0, 5), 8);
        event(0, 6, "take 1 for 2;");
        refused("optionOn: it was too much behind some EVENT", x.optionOn(0, 6), 8);
        fine("optionOn a day ahead", x.optionOn(0, 4), 0);
        x.option(2, 0, 1, 1, 0);
        event(2, 1, "give 1 of 2 for 997;give 1 of 2 for 991;give 1 of 2 for 983;give 1 of 2 for 977;take 1 for 997;"
                + "take 1 for 991;take 1 for 983;take 1 for 977;");
        number(2, 1, 1, 1);
        event(2, 2, "give 1 of 2 for 997;give 1 of 2 for 991;give 1 of 2 for 983;give 1 of 2 for 977;give 1 of 2 for 11;take 1 for 997;"
                + "take 1 for 991;take 1 for 983;take 1 for 977;take 1 for 11;");
        refused("term of 1, which was too much on the way", x.term(2, 1, 2), 8);
    }

    private static void untold() {
        sentence("7: the EVENT does not count");
        holders(10);
        event(0, 5, "choice a{}default a;");
        x.strike(1, 0, 3);
        refused("chosen of one that is struck", x.chosen(0, 0), 7);
        refused("stays of one that is struck", x.stays(0, 0, 0), 7);
        x.asof(2);
        fine("chosen as of a day ahead", x.chosen(0, 0), 0);
        fine("stays as of a day ahead", x.stays(0, 0, 0), 10);

        sentence("(1; 7: either doesn't count, it is not done, the EVENT is of another PAPER, or has choices; 8)");
        holders(10, 0);
        x.trade(0, 1, 0, 5, 1, 9, 0);
        x.trade(0, 1, 0, 6, 1, 9, 0);
        x.trade(0, 1, 0, 1, 1, 9, 1);
        event1(0, "coin 1 for 1;", 1);
        event1(1, "coin 1 for 1;", 1);
        event1(0, "choice a{}coin 1 for 1;", 1);
        fine("due", x.due(0, 0, NONE), 5);
        refused("due of one that failed", x.due(1, 0, NONE), 7);
        refused("due of another PAPER", x.due(0, 1, NONE), 7);
        refused("due of one with choices", x.due(0, 2, NONE), 7);
        x.strike(0, 2, 2);
        refused("due of a TRADE that is struck", x.due(2, 0, NONE), 7);
        refused("done of a TRADE that is struck", x.done(2), 7);
        x.asof(0);
        refused("due of an EVENT that is not known", x.due(0, 0, NONE), 7);
        refused("due of no TRADE", x.due(3, 0, NONE), 1);
        refused("due of no EVENT", x.due(0, 3, NONE), 1);

        sentence("(1; 2: ahead of its own; 5: it ended; 7: it does not count; 8)");
        x.option(0, 5, 1, 1, 3);
        fine("optionOn its own day", x.optionOn(0, 5), 0);
        refused("optionOn a day ahead", x.optionOn(0, 4), 2);
        refused("optionOn of none", x.optionOn(1, 5), 1);
        x.asof(2);
        refused("optionOn of one not known then", x.optionOn(0, 5), 7);
        refused("term of one not known then", x.term(0, 0, 5), 7);
        x.asof(3);
        fine("optionOn as of the day it is known", x.optionOn(0, 5), 0);
    }

    /** An event with its three days on day 5. */
    private static void event1(int paper, String text, int known) {
        feed(x, text);
        fine("event", x.event(paper, text.length(), 5, 5, 5, known) >= 0);
    }

    private static void striking() {
        sentence("What was told is STRUCK, what 0: a TRADE, 1: an EVENT, 2: a CHOICE (2: what; 1; 2; 4).");
        holders(10, 0);
        x.trade(0, 1, 0, 1, 1, 1, 2);
        event1(0, "choice a{}", 2);
        x.choose(0, 0, 0, 1, 2);
        for (int what = 0; what < 3; what++) {
            refused("strike of none", x.strike(what, 1, 9), 1);
            refused("strike of -1", x.strike(what, -1, 9), 1);
            refused("strike of none on no day", x.strike(what, 1, -1), 1);
            refused("strike on day 40,001", x.strike(what, 0, DAYS + 1), 2);
            refused("strike on a day that is gone", x.strike(what, 0, 1), 4);
            fine("strike", x.strike(what, 0, 2));
            refused("strike of what is struck", x.strike(what, 0, 2), 4);
            refused("strike of what is struck on no day", x.strike(what, 0, -1), 2);
        }
        refused("strike of what -1, of none", x.strike(-1, 9, -1), 2);
        refused("strike of what 3, of none", x.strike(3, 9, -1), 2);
    }

    private static void rates() {
        sentence("The rate of a PAPER in pennies (0 to 100,000; 0 at first; not in two times) (1; 2).");
        event(0, 5, "give 1 of 19 for 1;take 1 for 1;");
        fine("brings at first", x.brings(0, NONE, 1000000), 0);
        fine("rate 100,000", x.rate(19, 100000));
        fine("brings", x.brings(0, NONE, 1000000), 100000000000L);
        fine("rate of what goes", x.rate(0, 100000));
        fine("brings", x.brings(0, NONE, 1000000), 0);
        fine("rate 0", x.rate(19, 0));
        fine("brings", x.brings(0, NONE, 1000000), -100000000000L);
        refused("rate -1", x.rate(0, -1), 2);
        refused("rate 100,001", x.rate(0, 100001), 2);
        refused("rate of PAPER 20", x.rate(20, 1), 1);
        refused("rate of PAPER -1", x.rate(-1, 1), 1);

        sentence("bring a TOP account with so many shares (1 to 1,000,000), all CHOSEN so, uncut");
        event(0, 5, "coin 1 for 1;choice a{most 1 rata;coin 2 for 1;}choice b{pay 3 for 1;}");
        refused("brings of 0 shares", x.brings(0, 0, 0), 2);
        refused("brings of 1,000,001 shares", x.brings(0, 0, 1000001), 2);
        fine("brings of 1 share", x.brings(0, 0, 1), 3);
        fine("brings of 1,000,000 shares", x.brings(0, 0, 1000000), 3000000);
        fine("brings of none", x.brings(0, NONE, 1), 1);
        fine("brings of the other", x.brings(0, 1, 1), -2);
        refused("brings of a third", x.brings(0, 2, 1), 1);
        refused("brings of -2", x.brings(0, -2, 1), 1);
        refused("brings of no EVENT", x.brings(1, NONE, 1), 1);
        event(0, 5, times("coin 9999999 for 1;", 20));
        fine("brings of the most", x.brings(1, NONE, 1000000), 199999980000000L);
        x.rate(0, 7);
        event(0, 5, "choice a{take 1 for 2;}choice b{take 1 for 1;take 1 for 2;}choice c{take 1 for 3;}");
        long[] gone = {-14, -35, -7};
        for (int choice = 0; choice < 3; choice++) {
            fine("brings of takes", x.brings(2, choice, 5), gone[choice]);
        }

        sentence("The choice that brings most, of several the first (1; 2; 5: no choices).");
        event(0, 5, "choice a{coin 1 for 2;}choice b{coin 1 for 3;}choice c{coin 2 for 3;}");
        fine("best of like ones", x.best(0, 1), 0);
        fine("best", x.best(0, 2), 0);
        fine("best", x.best(0, 3), 2);
        fine("best of 1,000,000", x.best(0, 1000000), 2);
        event(0, 5, "choice a{coin 1 for 2;}choice b{coin 3 for 2;}choice c{coin 2 for 2;}");
        fine("best in the middle", x.best(1, 2), 1);
        refused("best of 0", x.best(0, 0), 2);
        refused("best of 1,000,001", x.best(0, 1000001), 2);
        event(0, 5, "coin 1 for 1;");
        refused("best without choices", x.best(2, 1), 5);
        refused("best of no EVENT", x.best(3, 1), 1);
    }

    private static void newHouse() {
        sentence("Nothing is told, an empty tape; AS OF 40,000; the FRACTION 0 by 1; STATUS 0.");
        due("status", x.status(), 0);
        due("upper", x.upper(), 0);
        due("lower", x.lower(), 1);
        refused("event of one byte", x.event(0, 1, 0, 0, 0, 0), 2);
        refused("own", x.own(0, 0, 0), 1);
        refused("choices", x.choices(0), 1);
        refused("bears", x.bears(0), 1);
        refused("done", x.done(0), 1);
        refused("optionOn", x.optionOn(0, 0), 1);
        refused("called", x.called(0, DAYS), 5);
        refused("rivals", x.rivals(), 5);
        fine("feed is its first", x.feed(0, 0, 0, 0, 0) == 20 && x.asof(DAYS));

        sentence("status(), upper(), lower(), fault(), feed() have none.");
        refused("own", x.own(0, 0, 0), 1);
        x.upper();
        x.lower();
        x.fault(0);
        x.fault(7);
        for (int i = 0; i < 21; i++) {
            x.feed(0, 0, 0, 0, 0);
        }
        x.status();
        due("status", x.status(), 1);
    }

    private static void asked() {
        sentence("Own shares of an ACCOUNT at the end of a day (1; 2; 8).");
        holders(3);
        fine("own at the end of the day", x.own(0, 0, 1), 3);
        fine("own at the end of the day ahead", x.own(0, 0, 0), 0);
        refused("own of account 1", x.own(1, 0, 1), 1);
        refused("own of account NONE", x.own(NONE, 0, 1), 1);
        refused("own of PAPER 20", x.own(0, 20, 1), 1);
        refused("own on day -1", x.own(0, 0, -1), 2);

        sentence("TOTAL (1; 2; 8).");
        holders(3);
        fine("total", x.total(0, 0, 1), 3);
        refused("total of account 1", x.total(1, 0, 1), 1);
        refused("total of PAPER -1", x.total(0, -1, 1), 1);
        refused("total on day 40,001", x.total(0, 0, DAYS + 1), 2);

        sentence("WORTH of an ACCOUNT's own shares (1; 2; 8).");
        tops(1);
        x.account(0, 0, 0);
        x.issue(1, 0, 1, 1, 7, 0);
        fine("worth of its own, not of those under it", x.worth(0, 0, 1), 0);
        fine("worth", x.worth(1, 0, 1), 7);
        refused("worth of account 2", x.worth(2, 0, 1), 1);
        refused("worth of PAPER 20", x.worth(0, 20, 1), 1);
        refused("worth on day 40,001", x.worth(0, 0, DAYS + 1), 2);

        sentence("What 0: pennies that came less those that went, 1: REALIZED, of an ACCOUNT; STATUS tells NONE from -1 (1; 2; 8).");
        tops(1);
        x.issue(0, 0, 1, 1, 7, 0);
        event(0, 2, "pay 1 for 1;take 1 for 1;");
        fine("coin of -1", x.coin(0, 0, 2), -1);
        fine("coin realized", x.coin(0, 1, 2), 7);
        refused("coin of account 1", x.coin(1, 0, 2), 1);
        refused("coin of account 1 and what 2", x.coin(1, 2, 2), 1);
        refused("coin of what 2", x.coin(0, 2, 2), 2);
        refused("coin of what -1", x.coin(0, -1, 2), 2);
        refused("coin on day -1", x.coin(0, 0, -1), 2);

        sentence("How many of its own shares stayed in a choice behind cuts, what came from others by cuts too (1; 7; 8).");
        holders(3);
        event(0, 5, "choice a{most 1 rata;}choice b{}default b;");
        event(0, 5, "");
        x.choose(0, 0, 0, 5, 0);
        stay(0, 0, 1);
        stay(0, 1, 2);
        refused("stays of no EVENT", x.stays(2, 0, 0), 1);
        refused("stays of no account", x.stays(0, 1, 0), 1);
        refused("stays of a third choice", x.stays(0, 0, 2), 1);
        refused("stays of choice -1", x.stays(0, 0, -1), 1);
        refused("stays of an EVENT without choices", x.stays(1, 0, 0), 1);
        refused("chosen of no EVENT", x.chosen(2, 0), 1);
        refused("chosen of no account", x.chosen(0, 1), 1);
        refused("choose of no EVENT", x.choose(2, 0, 0, 5, 0), 1);
        refused("choose of an EVENT without choices", x.choose(1, 0, 0, 5, 0), 1);
        refused("choose of no account", x.choose(0, 1, 0, 5, 0), 1);

        sentence("An OPTION more: its number (1; 2; 3; 4).");
        refused("option on PAPER 20", x.option(20, 1, 1, 1, 0), 1);
        refused("option on PAPER -1", x.option(-1, 1, 1, 1, 0), 1);
        refused("option from day -1", x.option(0, -1, 1, 1, 0), 2);
        refused("option from day 40,001", x.option(0, DAYS + 1, 1, 1, 0), 2);
        fine("option from day 40,000", x.option(0, DAYS, 1, 1, 0), 0);
        fine("option from day 0", x.option(0, 0, 1, 1, 0), 1);
    }

    // ---- the first STATUS that holds: all wrong at once, then one after the other put right

    private static void firstOfTellings() {
        sentence("An ACCOUNT more, under another one, or (NONE) a TOP one: its number (1; 2: LEAD, DELAY; 3).");
        tops(20);
        refused("account", x.account(20, 31, -1), 1);
        refused("account", x.account(19, 31, 0), 2);
        refused("account", x.account(19, 0, -1), 2);
        refused("account", x.account(19, 0, 0), 3);

        sentence("An ISSUE (1; 2; 3; 4).");
        tops(1);
        for (int i = 0; i < 40; i++) {
            x.issue(0, 0, 1, 1, 1, 5);
        }
        refused("issue", x.issue(1, 0, -1, 0, -1, 4), 1);
        refused("issue", x.issue(0, 20, -1, 0, -1, 4), 1);
        refused("issue", x.issue(0, 0, 1, 0, 0, 4), 2);
        refused("issue", x.issue(0, 0, 1, 1, 0, -1), 2);
        refused("issue", x.issue(0, 0, 1, 1, 0, 4), 3);

        sentence("A TRADE more: its number (1: like ACCOUNTS, too; 2; 3; 4).");
        tops(2);
        for (int i = 0; i < 40; i++) {
            x.trade(0, 1, 0, 1, 1, 1, 5);
        }
        refused("trade", x.trade(1, 1, 0, 0, 2, 1, 4), 1);
        refused("trade", x.trade(0, 1, 0, 1, 2, 1, 4), 2);
        refused("trade", x.trade(0, 1, 0, 1, 1, 1, 4), 3);

        sentence("its number (1; 2: n, days; 3; 4; 6)");
        feed(x, "pay 1");
        x.name(0, 0, 0, 5);
        refused("event", x.event(20, 21, 5, 5, 4, 4), 1);
        refused("event", x.event(0, 21, 5, 5, 5, 4), 2);
        refused("event", x.event(0, 5, 5, 5, 5, 4), 4);
        refused("event", x.event(0, 5, 5, 5, 5, 5), 6);
        for (int i = 0; i < 16; i++) {
            x.event(0, 0, 5, 5, 5, 5);
        }
        feed(x, "pay 1");
        refused("event", x.event(0, 5, 5, 5, 5, 4), 3);

        sentence("An ACCOUNT says on a day which choice of an EVENT it takes: the CHOICE's number (1; 2; 3; 4).");
        tops(1);
        event(0, 5, "choice a{}");
        for (int i = 0; i < 60; i++) {
            x.choose(0, 0, 0, 5, 5);
        }
        refused("choose", x.choose(1, 0, 0, -1, 4), 1);
        refused("choose", x.choose(0, 1, 0, -1, 4), 1);
        refused("choose", x.choose(0, 0, 1, -1, 4), 1);
        refused("choose", x.choose(0, 0, 0, -1, 4), 2);
        refused("choose", x.choose(0, 0, 0, 5, 4), 3);
    }

    private static void firstOfAnswers() {
        sentence("Which choice an ACCOUNT's own shares were CHOSEN for at an EVENT, ahead of cuts (1; 5: none; 7: the EVENT does not count).");
        tops(1);
        event(0, 5, "choice a{}");
        event(0, 5, "choice a{}default a;");
        x.strike(1, 0, 1);
        x.strike(1, 1, 1);
        refused("chosen", x.chosen(0, 1), 1);
        refused("chosen", x.chosen(0, 0), 5);
        refused("chosen", x.chosen(1, 0), 7);

        sentence("The HAND that BEARS a CHOICE that was not in time (1; 5: none; 7: it, or its EVENT, does not count).");
        x.account(NONE, 0, 3);
        event(0, 5, 5, 10, "choice a{}");
        x.choose(0, 0, 0, 7, 0);
        x.choose(0, 0, 0, 8, 0);
        x.choose(0, 0, 0, 11, 0);
        x.choose(0, 0, 0, 10, 1);
        x.strike(1, 0, 2);
        refused("bears", x.bears(4), 1);
        refused("bears of one in time", x.bears(0), 5);
        refused("bears of one that was not good", x.bears(2), 5);
        refused("bears: its EVENT is struck", x.bears(1), 7);
        x.asof(1);
        fine("bears a day late", x.bears(1), 0);
        fine("bears of one said on LAST", x.bears(3), 0);
        x.asof(0);
        refused("bears: it is not known", x.bears(3), 7);

        sentence("A TRADE: 0 it FAILED, 1 it is done (1; 7: it does not count; 8).");
        holders(1000000, 0);
        x.trade(0, 1, 0, 1, 1, 1, 0);
        x.trade(0, 1, 0, 1, 1, 2, 0);
        x.trade(0, 1, 0, 1, 1, 2, 0);
        x.trade(1, 0, 0, 2, 1, 1, 0);
        event(0, 2, "give 1000 of 0 for 1;");
        x.strike(0, 2, 0);
        refused("done", x.done(4), 1);
        refused("done of one struck, behind too much", x.done(2), 7);
        refused("done behind too much", x.done(1), 8);
        fine("done", x.done(0), 1);
        fine("done of one that failed", x.done(3), 0);

        sentence("The FRACTION is, what 0: its STRIKE, 1: its NUMBER (1; 2; 5; 7; 8).");
        for (int paper = 0; paper < 3; paper++) {
            x.option(paper, 1, 1000000, 10000, paper == 0 ? 0 : 1);
        }
        for (int paper = 0; paper < 3; paper++) {
            for (int day = 2; day <= 4; day++) {
                feed(x, "give 999 of " + paper + " for 1;");
                x.event(paper, 20, day, day, day, 1);
            }
        }
        feed(x, "take 1 for 1;");
        x.event(1, 13, 5, 5, 5, 1);
        refused("term", x.term(3, 2, 0), 1);
        refused("term", x.term(1, 2, 9), 2);
        refused("term", x.term(1, 0, 0), 2);
        refused("term of one that ended behind too much", x.term(1, 0, 5), 5);
        refused("term of too much", x.term(1, 0, 4), 8);
        refused("term of too much", x.term(2, 1, 9), 8);
        x.asof(0);
        refused("term of one that does not count", x.term(2, 1, 9), 7);
        fine("term of one without EVENTS then", x.term(0, 1, 9));
    }

    private static void firstOfDues() {
        sentence("DUE of a TRADE and an EVENT in shares of a PAPER, or (NONE) in pennies: what the seller owes, below 0 the buyer; STATUS tells NONE from -1");
        holders(1000000, 0);
        x.trade(0, 1, 0, 1, 3, 3, 0);
        x.trade(0, 1, 0, 1, 4, 5, 0);
        x.trade(1, 0, 0, 3, 4, 5, 0);
        event(0, 3, 5, 5, "pay 1 for 1;");
        event(0, 5, "give 1000 of 0 for 1;");
        fine("due of 1: the buyer owes what is to be paid back", x.due(0, 0, NONE), 1);
        fine("due of no share", x.due(0, 0, 0), 0);
        refused("due of no TRADE", x.due(3, 0, NONE), 1);
        refused("due of one that failed on a day of too much", x.due(2, 0, NONE), 7);
        refused("due of one done on a day of too much", x.due(1, 0, NONE), 8);

        sentence("The PAPER that an OPTION is on at the end of a day");
        x.option(0, 1, 1, 1, 0);
        event(0, 5, "take 1 for 1;give 1 of 19 for 1;");
        fine("optionOn a day ahead", x.optionOn(0, 4), 0);
        fine("optionOn at the end of the day", x.optionOn(0, 5), 19);
        refused("optionOn of -1", x.optionOn(-1, 0), 1);
        refused("optionOn day 40,001", x.optionOn(0, DAYS + 1), 2);

        sentence("Its lower number, above 0.");
        x.option(0, 1, 1, 1, 0);
        event(0, 2, "take 1 for 1;give 1 of 0 for 1000;");
        event(0, 3, "take 1 for 1;give 1000 of 0 for 1;");
        fine("term", x.term(0, 1, 2));
        due("lower", x.lower(), 1000);
        fine("term", x.term(0, 1, 3));
        due("lower", x.lower(), 1);

        sentence("The number a PAPER is CALLED on a day (1; 2; 5).");
        refused("called", x.called(20, -1), 1);
        refused("called", x.called(19, -1), 2);
        refused("called", x.called(19, 0), 5);

        sentence("What the CLAUSES outside of all choices, and those of a choice (or NONE: of none)");
        event(0, 5, "pay 1 for 1;");
        refused("brings", x.brings(1, 0, 0), 1);
        refused("brings", x.brings(0, 0, 0), 1);
        refused("brings", x.brings(0, NONE, 0), 2);
        fine("brings -1", x.brings(0, NONE, 1), -1);
    }

    private static void calls() {
        sentence("All is worked out AS OF a day (2).");
        fine("asof day 0", x.asof(0));
        fine("asof day 40,000", x.asof(DAYS));
        refused("asof day -1", x.asof(-1), 2);
        refused("asof day 40,001", x.asof(DAYS + 1), 2);

        sentence("The STATUS of the latest call that has one.");
        due("status", x.status(), 0);
        x.own(0, 0, 0);
        due("status", x.status(), 1);
        due("status again", x.status(), 1);
        x.rate(0, 1);
        due("status", x.status(), 0);

        sentence("its TOTAL is its own and the TOTALS of all under it");
        for (int i = 0; i < 20; i++) {
            x.account(i == 0 ? NONE : (i - 1) / 3, 0, 0);
            x.issue(i, 0, 1, 1 << i, 0, 0);
        }
        fine("total of all", x.total(0, 0, 1), (1 << 20) - 1);
        fine("total of one with three under it", x.total(5, 0, 1), 1 << 5 | 7 << 16);
        fine("total of one with one under it", x.total(6, 0, 1), 1 << 6 | 1 << 19);
        fine("total of one with none under it", x.total(19, 0, 1), 1 << 19);

        sentence("(What goes is parted as what comes.)");
        x.account(NONE, 0, 0);
        x.account(0, 0, 0);
        x.issue(0, 0, 1, 1, 0, 0);
        x.issue(1, 0, 1, 1, 0, 0);
        event(0, 2, "take 1 for 2;pay 1 for 2;");
        owns(0, 2, 0, 1);
        fine("coin of its own part, ahead", x.coin(0, 0, 2), -1);
        fine("coin of the one under it", x.coin(1, 0, 2), 0);

        sentence("An object is used for at most 512 calls after it has been made");
        holders(3);
        for (int call = 3; call <= 511; call++) {
            x.account(NONE, 0, 0);
        }
        due("own, the 512th call", x.own(0, 0, 1), 3);
    }

    private static void forms() {
        sentence("FRACTION: down, up, near, or coin NUMBER.");
        fault("fraction down;fraction up;fraction near;fraction coin 1;", 0, NONE);
        fault("fraction;", 2, 8);
        fault("fraction off;", 2, 9);
        fault("fraction down 1;", 2, 14);
        fault("fraction coin;", 2, 13);
        fault("fraction coin x;", 2, 14);
        fault("fraction down", 2, 13);

        sentence("CUT: rata, or small NUMBER.");
        fault("choice a{most 1 rata;}choice b{most 1 small 1;}", 0, NONE);
        fault("choice a{most 1;}", 2, 15);
        fault("choice a{most 1 large;}", 2, 16);
        fault("choice a{most 1 rata 1;}", 2, 21);
        fault("choice a{most 1 small;}", 2, 21);
        fault("choice a{most rata;}", 2, 14);

        sentence("COMPARES: < or >");
        fault("when has<1{}when has>1{}", 0, NONE);
        fault("when has 1{}", 2, 9);
        fault("when has=1{}", 1, 8);
        fault("when has<>1{}", 2, 9);
        fault("when has<{}", 2, 9);
        fault("when<1{}", 2, 4);
        fault("when has<1;", 2, 10);
        fault("when has<1{}else;", 2, 16);
    }

    /** As many of all as there may be, in one house. */
    private static void full() {
        sentence("3 one too many.");
        for (int i = 0; i < 20; i++) {
            x.account(i == 0 ? NONE : (i - 1) / 2, 0, 0);
        }
        for (int i = 0; i < 40; i++) {
            x.issue(i % 20, 0, 1, 1000, 10, 0);
            x.trade(i % 20, (i + 1) % 20, 0, 10, 2, 2, 0);
        }
        for (int i = 0; i < 16; i++) {
            event(0, 10 + i, "choice a{coin 3 for 1;}choice b{pay 1 for 1;}");
        }
        for (int i = 0; i < 60; i++) {
            x.choose(i % 16, i % 20, i % 2, 5, 0);
            x.name(i % 20, i, i, 0);
        }
        for (int i = 0; i < 12; i++) {
            x.option(0, 1, 1, 1, 0);
            x.hint(0, 0, 1, 1, 1, false);
        }
        refused("account", x.account(NONE, 0, 0), 3);
        refused("issue", x.issue(0, 0, 1, 1, 0, 0), 3);
        refused("trade", x.trade(0, 1, 0, 1, 1, 1, 0), 3);
        refused("event", x.event(0, 0, 5, 5, 5, 0), 3);
        refused("choose", x.choose(0, 0, 0, 5, 0), 3);
        refused("option", x.option(0, 1, 1, 1, 0), 3);
        refused("name", x.name(0, 1, 1, 0), 3);
        refused("hint", x.hint(0, 0, 1, 1, 1, true), 3);
        fine("total of all", x.total(0, 0, DAYS), 40000);
        long pennies = 0;
        for (int i = 0; i < 20; i++) {
            pennies += x.coin(i, 0, DAYS);
        }
        due("coin of all", pennies, picked());
    }

    /** What the CHOICES of the full house bring: each account has 2,000 shares, and the parity of its pick says what. */
    private static long picked() {
        long sum = 0;
        for (int i = 0; i < 60; i++) {
            sum += i % 2 == 0 ? 6000 : -2000;
        }
        return sum;
    }

    // ---- the document

    private static String squeeze(String text) {
        return text.replaceAll("\\s+", " ");
    }

    /** Each quote stands in the document, and each STATUS that it names behind a promise was met for that call. */
    private static void againstDocument(String document) {
        about = "the document";
        String words = squeeze(document);
        for (String quote : quotes) {
            due("a place of '" + quote + "'", words.contains(squeeze(quote)) ? 1 : 0, 1);
        }
        Matcher promise = Pattern.compile("## Promise \\d+: ([^\\n]+)\\n(.*?)(?=\\n## )", Pattern.DOTALL).matcher(document);
        int promises = 0;
        while (promise.find()) {
            promises++;
            Matcher bracket = Pattern.compile("\\((\\d(?:[:;][^()]*)?)\\)\\.\\s*$").matcher(promise.group(2).trim());
            if (bracket.find()) {
                for (String part : bracket.group(1).split(";")) {
                    String met = promise.group(1) + " " + part.trim().charAt(0);
                    due("a test of '" + met + "'", Checks.met.contains(met) ? 1 : 0, 1);
                }
            }
        }
        due("promises", promises, 36);
    }

    private static Path documentBy(String[] args) {
        Path here = args.length > 0 ? Path.of(args[0]).toAbsolutePath().getParent().resolve("../../..") : Path.of(".");
        return here.resolve("../shared/DOC.md").normalize();
    }

    public static void main(String[] args) throws IOException {
        newHouse();
        papersAndDays();
        days();
        twoTimes();
        accounts();
        issues();
        trades();
        settling();
        events();
        texts();
        tokens();
        firstFaults();
        limits();
        places();
        whatFaultTells();
        order();
        choosing();
        inTime();
        cutting();
        cutAway();
        fractions();
        worths();
        whens();
        worthLeft();
        parting();
        dues();
        optionEdges();
        optionChanges();
        fractionTold();
        names();
        hints();
        explaining();
        explained();
        tooMuch();
        untold();
        striking();
        rates();
        asked();
        firstOfTellings();
        firstOfAnswers();
        firstOfDues();
        calls();
        forms();
        full();
        Path document = documentBy(args);
        if (Files.exists(document)) {
            againstDocument(Files.readString(document));
        } else {
            System.out.println("no " + document + " to set the quotes against");
        }
        System.out.println(quotes.size() + " sentences");
        end();
    }
}
