import java.util.ArrayList;
import java.util.Arrays;

/** A house that tells what a share became; the document's numbered promises say what each call answers. */
public final class ShareLife {
    public static final int NONE = -1;

    private static final int PAPERS = 20;
    private static final int MOST_ACCOUNTS = 20;
    private static final int MOST_ISSUES = 40;
    private static final int MOST_TRADES = 40;
    private static final int MOST_EVENTS = 16;
    private static final int MOST_PICKS = 60;
    private static final int MOST_OPTIONS = 10;
    private static final int MOST_NAMES = 60;
    private static final int MOST_HINTS = 12;

    private static final int LAST_DAY = 40000;
    private static final int LONGEST_WAIT = 30;
    private static final int RECORD_APART = 10;
    private static final int MOST_SHARES = 1000000;
    private static final int MOST_WORTH = 100000000;
    private static final int MOST_STRIKE = 1000000;
    private static final int MOST_NUMBER = 10000;
    private static final int MOST_RATE = 100000;
    private static final int LAST_NAME = 9999;
    private static final long MOST_TOTAL = 1000000000L;
    private static final long MOST_PART = 1000000000000L;

    private static final int MOST_BYTES = 400;
    private static final int BYTES_FED = 20;
    private static final int MOST_CLAUSES = 30;
    private static final int DEEPEST = 3;
    private static final int MOST_CHOICES = 3;
    private static final int MOST_RATIO = 1000;
    private static final int WHOLE_WORTH = 1000;
    private static final int LONGEST_NAME = 8;
    private static final int MOST_DIGITS = 7;
    private static final int GREATEST = 9999999;

    /** What stands outside of all choices is held as a row behind the rows of the choices. */
    private static final int OUTSIDE = MOST_CHOICES;
    private static final int ROWS = MOST_CHOICES + 1;

    private static final int NO_SUCH = 1;
    private static final int CANNOT_BE = 2;
    private static final int TOO_MANY = 3;
    private static final int GONE = 4;
    private static final int THERE_IS_NONE = 5;
    private static final int FAULTY = 6;
    private static final int UNTOLD = 7;
    private static final int TOO_MUCH = 8;

    private static final int GIVE = 0;
    private static final int TAKE = 1;
    private static final int COIN = 2;
    private static final int PAY = 3;
    private static final int WORTH = 4;
    private static final int FRACTION = 5;
    private static final int WHEN = 6;
    private static final int CHOICE = 7;
    private static final int DEFAULT = 8;
    private static final int MOST = 9;

    private static final int DOWN = 0;
    private static final int UP = 1;
    private static final int NEAR = 2;
    private static final int IN_COIN = 3;

    private static final int ISSUING = 0;
    private static final int TRADING = 1;
    private static final int HAPPENING = 2;
    private static final int KINDS = 4;
    private static final int NUMBERS = 64;

    /** Numbers that may pass a long are rows of limbs, the least first. */
    private static final int LIMB_BITS = 40;
    private static final long LIMB = (1L << LIMB_BITS) - 1;
    /** Room for thirty clauses of an option's text, each by up to 1,000, or for sixteen texts of gives one by another. */
    private static final int LIMBS = 9;

    private int state;
    private int latest;
    private int optionPaper;
    private long shownUpper;
    private long shownLower;
    private final Accounts accounts;
    private final ArrayList<Entry> issues;
    private final ArrayList<Entry> trades;
    private final ArrayList<Event> events;
    private final ArrayList<Pick> picks;
    private final ArrayList<Entry> options;
    private final ArrayList<Entry> names;
    private final int[] rates;
    private final Fraction strikeNow;
    private final Fraction numberNow;
    private final Fraction factor;
    private final Reader reader;
    private final Run run;
    private final Riddle riddle;
    /** Made when it is first asked for, which hardly any house is. */
    private Flood flood;

    public ShareLife() {
        shownLower = 1;
        run = new Run();
        accounts = run.accounts;
        issues = run.issues;
        trades = run.trades;
        events = run.events;
        picks = run.picks;
        options = new ArrayList<Entry>();
        names = new ArrayList<Entry>();
        rates = new int[PAPERS];
        strikeNow = new Fraction();
        numberNow = new Fraction();
        factor = new Fraction();
        reader = new Reader();
        riddle = new Riddle();
    }

    public int status() {
        return state;
    }

    public boolean asof(int day) {
        if (refused(!isDay(day) ? CANNOT_BE : 0)) {
            return false;
        }
        run.asof = day;
        run.stale = true;
        return true;
    }

    // ---- what is told

    public int account(int under, int lead, int delay) {
        boolean noSuch = under != NONE && !hasAccount(under);
        boolean cannotBe = !within(lead, 0, LONGEST_WAIT) || !within(delay, 0, LONGEST_WAIT);
        if (refused(first(noSuch, cannotBe, accounts.count >= MOST_ACCOUNTS, false))) {
            return NONE;
        }
        run.stale = true;
        return accounts.hang(under, lead, delay);
    }

    public boolean issue(int account, int paper, int day, int shares, int worth, int known) {
        boolean noSuch = !hasAccount(account) || !isPaper(paper);
        boolean cannotBe = !isDay(day) || !within(shares, 1, MOST_SHARES)
                || !within(worth, 0, MOST_WORTH) || !isDay(known);
        if (refused(first(noSuch, cannotBe, issues.size() >= MOST_ISSUES, known < latest))) {
            return false;
        }
        Entry issue = new Entry(paper, day, shares, known);
        issue.to = account;
        issue.pennies = worth;
        issues.add(issue);
        tell(known);
        return true;
    }

    public int trade(int from, int to, int paper, int shares, int dealt, int settled, int known) {
        boolean noSuch = !hasAccount(from) || !hasAccount(to) || from == to || !isPaper(paper);
        boolean cannotBe = !within(shares, 1, MOST_SHARES) || !isDay(dealt) || !isDay(settled)
                || settled < dealt || !isDay(known);
        if (refused(first(noSuch, cannotBe, trades.size() >= MOST_TRADES, known < latest))) {
            return NONE;
        }
        Entry deal = new Entry(paper, settled, shares, known);
        deal.from = from;
        deal.to = to;
        deal.dealt = dealt;
        trades.add(deal);
        tell(known);
        return trades.size() - 1;
    }

    public int feed(int a, int b, int c, int d, int e) {
        if (reader.length + BYTES_FED > MOST_BYTES) {
            return NONE;
        }
        reader.put(a);
        reader.put(b);
        reader.put(c);
        reader.put(d);
        reader.put(e);
        return reader.length;
    }

    public int event(int paper, int n, int ex, int record, int last, int known) {
        boolean cannotBe = !within(n, 0, reader.length) || !isDay(ex) || !isDay(record) || !isDay(last)
                || Math.abs(record - ex) > RECORD_APART || last < record || !isDay(known);
        if (refused(first(!isPaper(paper), cannotBe, events.size() >= MOST_EVENTS, known < latest))) {
            return NONE;
        }
        Text text = reader.read(n);
        reader.length = 0;
        if (refused(text == null ? FAULTY : 0)) {
            return NONE;
        }
        Event happened = new Event(paper, text, known);
        happened.ex = ex;
        happened.record = record;
        happened.last = last;
        events.add(happened);
        tell(known);
        return events.size() - 1;
    }

    public int fault(int what) {
        if (what == 0) {
            return reader.flaw;
        }
        return what == 1 ? reader.place : NONE;
    }

    public int choices(int event) {
        if (refused(hasEvent(event) ? 0 : NO_SUCH)) {
            return NONE;
        }
        return events.get(event).text.choiceCount;
    }

    public int choose(int event, int account, int choice, int day, int known) {
        boolean noSuch = !hasChoice(event, choice) || !hasAccount(account);
        boolean cannotBe = !isDay(day) || !isDay(known);
        if (refused(first(noSuch, cannotBe, picks.size() >= MOST_PICKS, known < latest))) {
            return NONE;
        }
        Pick pick = new Pick(event, account, choice, day, known);
        picks.add(pick);
        tell(known);
        return picks.size() - 1;
    }

    public boolean strike(int what, int which, int known) {
        if (refused(within(what, 0, 2) ? 0 : CANNOT_BE)) {
            return false;
        }
        Told told = toldBy(what, which);
        boolean gone = known < latest || (told != null && told.struck != NONE);
        if (refused(first(told == null, !isDay(known), false, gone)) || told == null) {
            return false;
        }
        told.struck = known;
        tell(known);
        return true;
    }

    private Told toldBy(int what, int which) {
        if (what == 0) {
            return hasTrade(which) ? trades.get(which) : null;
        }
        if (what == 1) {
            return hasEvent(which) ? events.get(which) : null;
        }
        return hasPick(which) ? picks.get(which) : null;
    }

    // ---- what became

    public int own(int account, int paper, int day) {
        if (refused(first(!hasAccount(account) || !isPaper(paper), !isDay(day), false, false))) {
            return NONE;
        }
        run.to(day);
        if (refused(run.over ? TOO_MUCH : 0)) {
            return NONE;
        }
        return (int) run.held[paper][account];
    }

    public int total(int account, int paper, int day) {
        if (refused(first(!hasAccount(account) || !isPaper(paper), !isDay(day), false, false))) {
            return NONE;
        }
        run.to(day);
        if (refused(run.over ? TOO_MUCH : 0)) {
            return NONE;
        }
        accounts.roll(run.held[paper], accounts.owed);
        return (int) accounts.owed[account];
    }

    public long worth(int account, int paper, int day) {
        if (refused(first(!hasAccount(account) || !isPaper(paper), !isDay(day), false, false))) {
            return NONE;
        }
        run.to(day);
        if (refused(run.over ? TOO_MUCH : 0)) {
            return NONE;
        }
        return run.taxed[paper][account];
    }

    public long coin(int account, int what, int day) {
        boolean cannotBe = !within(what, 0, 1) || !isDay(day);
        if (refused(first(!hasAccount(account), cannotBe, false, false))) {
            return NONE;
        }
        run.to(day);
        if (refused(run.over ? TOO_MUCH : 0)) {
            return NONE;
        }
        return what == 0 ? run.pennies[account] : run.realized[account];
    }

    public int chosen(int event, int account) {
        if (refused(hasEvent(event) && hasAccount(account) ? 0 : NO_SUCH)) {
            return NONE;
        }
        int choice = run.choiceOf(event, account);
        boolean counts = events.get(event).counts(run.asof);
        return refused(noneOrUntold(choice, counts)) ? NONE : choice;
    }

    public int stays(int event, int account, int choice) {
        if (refused(hasChoice(event, choice) && hasAccount(account) ? 0 : NO_SUCH)) {
            return NONE;
        }
        if (refused(events.get(event).counts(run.asof) ? 0 : UNTOLD)) {
            return NONE;
        }
        run.to(events.get(event).record);
        if (refused(run.over ? TOO_MUCH : 0)) {
            return NONE;
        }
        return (int) run.kept[event][choice * MOST_ACCOUNTS + account];
    }

    public int bears(int choice) {
        if (refused(hasPick(choice) ? 0 : NO_SUCH)) {
            return NONE;
        }
        Pick pick = picks.get(choice);
        boolean counts = pick.counts(run.asof) && hasEvent(pick.event) && events.get(pick.event).counts(run.asof);
        int hand = run.bearerOf(pick);
        return refused(noneOrUntold(hand, counts)) ? NONE : hand;
    }

    /** That there is none comes ahead of that it does not count. */
    private static int noneOrUntold(int found, boolean counts) {
        if (found == NONE) {
            return THERE_IS_NONE;
        }
        return counts ? 0 : UNTOLD;
    }

    public int done(int trade) {
        if (refused(hasTrade(trade) ? 0 : NO_SUCH)) {
            return NONE;
        }
        Entry deal = trades.get(trade);
        if (refused(deal.counts(run.asof) ? 0 : UNTOLD)) {
            return NONE;
        }
        run.to(deal.day);
        if (refused(run.over ? TOO_MUCH : 0)) {
            return NONE;
        }
        return run.settled[trade];
    }

    public long due(int trade, int event, int paper) {
        boolean noSuch = !hasTrade(trade) || !hasEvent(event) || (paper != NONE && !isPaper(paper));
        if (refused(noSuch ? NO_SUCH : 0)) {
            return NONE;
        }
        Entry deal = trades.get(trade);
        Event happened = events.get(event);
        boolean apart = !deal.counts(run.asof) || !happened.counts(run.asof)
                || deal.paper != happened.paper || happened.text.choiceCount > 0;
        if (refused(apart ? UNTOLD : 0)) {
            return NONE;
        }
        run.to(deal.day);
        if (run.settled[trade] == NONE) {
            flood = flood == null ? new Flood(accounts) : flood;
            flood.goOn(run);
        }
        if (refused(settledStatus(trade))) {
            return NONE;
        }
        return owingSide(deal, happened) * givenTo(happened.text, deal.number, paper);
    }

    /** That it failed comes ahead of too much. */
    private int settledStatus(int trade) {
        if (run.settled[trade] == 0) {
            return UNTOLD;
        }
        return run.over ? TOO_MUCH : 0;
    }

    /** 1: the seller owes the buyer, -1: the buyer owes the seller, 0: neither. */
    private static int owingSide(Entry deal, Event happened) {
        if (deal.dealt < happened.ex) {
            return deal.day > happened.record ? 1 : 0;
        }
        return deal.day <= happened.record ? -1 : 0;
    }

    private static long givenTo(Text text, int shares, int paper) {
        workFor(text, NONE, shares);
        long sum = 0;
        for (int i = 0; i < text.size; i++) {
            if (paper == NONE) {
                sum += text.pennies[i];
            } else if (text.kind[i] == GIVE && text.q[i] == paper) {
                sum += text.shares[i];
            }
        }
        return sum;
    }

    /** Lets a text work for a top account with so many shares, all chosen so. */
    private static void workFor(Text text, int choice, int shares) {
        Arrays.fill(text.holding, 0);
        text.holding[OUTSIDE] = shares;
        if (within(choice, 0, MOST_CHOICES - 1)) {
            text.holding[choice] = shares;
        }
        text.work();
    }

    // ---- options

    public int option(int paper, int day, int strike, int number, int known) {
        boolean cannotBe = !isDay(day) || !within(strike, 1, MOST_STRIKE)
                || !within(number, 1, MOST_NUMBER) || !isDay(known);
        if (refused(first(!isPaper(paper), cannotBe, options.size() >= MOST_OPTIONS, known < latest))) {
            return NONE;
        }
        Entry option = new Entry(paper, day, number, known);
        option.pennies = strike;
        options.add(option);
        tell(known);
        return options.size() - 1;
    }

    public int optionOn(int option, int day) {
        if (refused(first(!hasOption(option), !isOptionDay(option, day), false, false))) {
            return NONE;
        }
        if (refused(follow(options.get(option), day))) {
            return NONE;
        }
        return optionPaper;
    }

    public boolean term(int option, int what, int day) {
        boolean cannotBe = !within(what, 0, 1) || !isOptionDay(option, day);
        if (refused(first(!hasOption(option), cannotBe, false, false))) {
            return false;
        }
        if (refused(follow(options.get(option), day))) {
            return false;
        }
        Fraction shown = what == 0 ? strikeNow : numberNow;
        shownUpper = shown.above;
        shownLower = shown.below;
        return true;
    }

    public long upper() {
        return shownUpper;
    }

    public long lower() {
        return shownLower;
    }

    private boolean isOptionDay(int option, int day) {
        return isDay(day) && hasOption(option) && day >= options.get(option).day;
    }

    /**
     * Takes an option through the events up to a day, past too much as well, since that it ended comes first; what it is
     * then stands in optionPaper, strikeNow, numberNow.
     */
    private int follow(Entry option, int day) {
        optionPaper = option.paper;
        strikeNow.put(option.pennies);
        numberNow.put(option.number);
        int behind = option.day * NUMBERS - 1;
        for (int k = 0; k < MOST_EVENTS; k++) {
            int key = nextEvent(behind, day);
            if (key == NONE) {
                break;
            }
            behind = key;
            if (!adjust(events.get(key % NUMBERS))) {
                return THERE_IS_NONE;
            }
        }
        if (!option.counts(run.asof)) {
            return UNTOLD;
        }
        return numberNow.over || strikeNow.over ? TOO_MUCH : 0;
    }

    /** The key (its record day and number) of the first event behind another that changes options on optionPaper. */
    private int nextEvent(int behind, int day) {
        int least = NONE;
        for (int i = 0; i < events.size(); i++) {
            Event happened = events.get(i);
            int key = happened.record * NUMBERS + i;
            boolean comes = key > behind && happened.record <= day && (least == NONE || key < least);
            if (comes && happened.paper == optionPaper && happened.text.isPlain() && happened.counts(run.asof)) {
                least = key;
            }
        }
        return least;
    }

    /** Whether anything is left of the option behind an event. */
    private boolean adjust(Event happened) {
        Text text = happened.text;
        int given = text.firstGive();
        if (given != NONE && text.takesAll()) {
            optionPaper = text.q[given];
            factor.put(1);
            factor.times(text.m[given], text.n[given]);
        } else {
            text.addUp(happened.paper, factor);
        }
        if (factor.over) {
            numberNow.over = true;
        } else {
            numberNow.times(factor.above, factor.below);
            strikeNow.times(factor.below, factor.above);
        }
        return factor.isLeft();
    }

    // ---- rates

    public boolean rate(int paper, int pennies) {
        if (refused(first(!isPaper(paper), !within(pennies, 0, MOST_RATE), false, false))) {
            return false;
        }
        rates[paper] = pennies;
        return true;
    }

    public long brings(int event, int choice, int shares) {
        boolean noSuch = !hasEvent(event) || (choice != NONE && !hasChoice(event, choice));
        if (refused(first(noSuch, !within(shares, 1, MOST_SHARES), false, false))) {
            return NONE;
        }
        return valueOf(events.get(event), choice, shares);
    }

    public int best(int event, int shares) {
        if (refused(first(!hasEvent(event), !within(shares, 1, MOST_SHARES), false, false))) {
            return NONE;
        }
        Event happened = events.get(event);
        if (refused(happened.text.choiceCount == 0 ? THERE_IS_NONE : 0)) {
            return NONE;
        }
        int best = 0;
        long most = valueOf(happened, 0, shares);
        for (int choice = 1; choice < happened.text.choiceCount; choice++) {
            long value = valueOf(happened, choice, shares);
            if (value > most) {
                most = value;
                best = choice;
            }
        }
        return best;
    }

    private long valueOf(Event happened, int choice, int shares) {
        Text text = happened.text;
        workFor(text, choice, shares);
        long sum = 0;
        for (int i = 0; i < text.size; i++) {
            sum += text.pennies[i];
            if (text.kind[i] == GIVE && isPaper(text.q[i])) {
                sum += text.shares[i] * rates[text.q[i]];
            }
        }
        for (int row = 0; row < ROWS; row++) {
            sum -= text.taken(row) * rates[happened.paper];
        }
        return sum;
    }

    // ---- names, an old paper

    public boolean name(int paper, int name, int day, int known) {
        boolean cannotBe = !within(name, 0, LAST_NAME) || !isDay(day) || !isDay(known);
        if (refused(first(!isPaper(paper), cannotBe, names.size() >= MOST_NAMES, known < latest))) {
            return false;
        }
        names.add(new Entry(paper, day, name, known));
        tell(known);
        return true;
    }

    public int called(int paper, int day) {
        if (refused(first(!isPaper(paper), !isDay(day), false, false))) {
            return NONE;
        }
        int name = nameOf(paper, day);
        refused(name == NONE ? THERE_IS_NONE : 0);
        return name;
    }

    public int find(int name, int day, int k) {
        if (refused(within(name, 0, LAST_NAME) && isDay(day) ? 0 : CANNOT_BE)) {
            return NONE;
        }
        int found = NONE;
        int so = 0;
        for (int paper = 0; paper < PAPERS && found == NONE; paper++) {
            if (nameOf(paper, day) == name) {
                if (so == k) {
                    found = paper;
                }
                so++;
            }
        }
        refused(found == NONE ? THERE_IS_NONE : 0);
        return found;
    }

    private int nameOf(int paper, int day) {
        int name = NONE;
        int began = NONE;
        for (int i = 0; i < names.size(); i++) {
            Entry since = names.get(i);
            if (since.paper == paper && since.day <= day && since.day >= began && since.counts(run.asof)) {
                began = since.day;
                name = since.number;
            }
        }
        return name;
    }

    public int hint(int from, int to, int day, int m, int n, boolean sure) {
        boolean cannotBe = !isDay(day) || !within(m, 1, MOST_RATIO) || !within(n, 1, MOST_RATIO);
        if (refused(first(!isPaper(from) || !isPaper(to), cannotBe, riddle.count >= MOST_HINTS, false))) {
            return NONE;
        }
        return riddle.add(from, to, day, m, n, sure);
    }

    public int explain(int paper, int shares, int day, int now, int has, int later) {
        boolean cannotBe = !within(shares, 1, MOST_SHARES) || !isDay(day) || !isDay(later) || later <= day;
        if (refused(first(!isPaper(paper) || !isPaper(now), cannotBe, false, false))) {
            return NONE;
        }
        riddle.solve(paper, shares, day, now, has, later);
        if (refused(riddle.ways == 0 ? THERE_IS_NONE : 0)) {
            return NONE;
        }
        riddle.keep();
        return Integer.bitCount(riddle.keptSet);
    }

    public int rivals() {
        if (refused(riddle.keptWays == 0 ? THERE_IS_NONE : 0)) {
            return NONE;
        }
        return riddle.keptWays;
    }

    public int because(int k) {
        int found = riddle.keptWays == 0 ? NONE : riddle.inSet(k);
        refused(found == NONE ? THERE_IS_NONE : 0);
        return found;
    }

    // ---- what the calls share

    private boolean refused(int found) {
        state = found;
        return found != 0;
    }

    private static int first(boolean noSuch, boolean cannotBe, boolean tooMany, boolean gone) {
        if (noSuch) {
            return NO_SUCH;
        }
        if (cannotBe) {
            return CANNOT_BE;
        }
        if (tooMany) {
            return TOO_MANY;
        }
        return gone ? GONE : 0;
    }

    private void tell(int known) {
        latest = known;
        run.stale = true;
    }

    private static boolean within(int number, int least, int most) {
        return number >= least && number <= most;
    }

    private static boolean isDay(int day) {
        return within(day, 0, LAST_DAY);
    }

    private static boolean isPaper(int paper) {
        return within(paper, 0, PAPERS - 1);
    }

    private boolean hasAccount(int account) {
        return within(account, 0, accounts.count - 1);
    }

    private boolean hasTrade(int trade) {
        return within(trade, 0, trades.size() - 1);
    }

    private boolean hasEvent(int event) {
        return within(event, 0, events.size() - 1);
    }

    private boolean hasChoice(int event, int choice) {
        return hasEvent(event) && within(choice, 0, events.get(event).text.choiceCount - 1);
    }

    private boolean hasPick(int pick) {
        return within(pick, 0, picks.size() - 1);
    }

    private boolean hasOption(int option) {
        return within(option, 0, options.size() - 1);
    }

    /** What is known from a day on, and perhaps struck from a later one on. */
    private abstract static class Told {
        final int known;
        int struck = NONE;

        Told(int known) {
            this.known = known;
        }

        boolean counts(int asof) {
            return known <= asof && (struck == NONE || struck > asof);
        }
    }

    /** So many of a paper on a day: an issue, a trade, an option; or a name, what the paper is called from then on. */
    private static final class Entry extends Told {
        final int paper;
        final int day;
        final int number;
        int from = NONE;
        int to = NONE;
        int dealt;
        /** The WORTH of an issue, the STRIKE of an option. */
        int pennies;

        Entry(int paper, int day, int number, int known) {
            super(known);
            this.paper = paper;
            this.day = day;
            this.number = number;
        }
    }

    private static final class Event extends Told {
        final int paper;
        final Text text;
        int ex;
        int record;
        int last;

        Event(int paper, Text text, int known) {
            super(known);
            this.paper = paper;
            this.text = text;
        }
    }

    /** A CHOICE: what an account said. */
    private static final class Pick extends Told {
        final int event;
        final int account;
        final int choice;
        final int day;

        Pick(int event, int account, int choice, int day, int known) {
            super(known);
            this.event = event;
            this.account = account;
            this.choice = choice;
            this.day = day;
        }
    }

    /** The tree of accounts, and how what comes to a top account is parted down through it. */
    private static final class Accounts {
        int count;
        final int[] under = new int[MOST_ACCOUNTS];
        final int[] lead = new int[MOST_ACCOUNTS];
        final int[] delay = new int[MOST_ACCOUNTS];
        final int[] top = new int[MOST_ACCOUNTS];
        /** Sums from an account up to its top one, both in it. */
        final int[] leadsUp = new int[MOST_ACCOUNTS];
        final int[] delaysUp = new int[MOST_ACCOUNTS];
        final int[] firstKid = new int[MOST_ACCOUNTS];
        final int[] lastKid = new int[MOST_ACCOUNTS];
        final int[] nextKid = new int[MOST_ACCOUNTS];
        /** Own shares by row: chosen for each choice, and all of them behind these. */
        final long[][] mine = new long[ROWS][MOST_ACCOUNTS];
        final long[][] all = new long[ROWS][MOST_ACCOUNTS];
        final long[] owed = new long[MOST_ACCOUNTS];
        final long[] got = new long[MOST_ACCOUNTS];
        final int[] who = new int[MOST_ACCOUNTS + 1];
        final long[] weight = new long[MOST_ACCOUNTS + 1];
        final long[] share = new long[MOST_ACCOUNTS + 1];
        final long[] rest = new long[MOST_ACCOUNTS + 1];

        int hang(int hand, int leadDays, int delayDays) {
            int number = count;
            boolean isTop = hand == NONE;
            under[number] = hand;
            lead[number] = leadDays;
            delay[number] = delayDays;
            top[number] = isTop ? number : top[hand];
            leadsUp[number] = leadDays + (isTop ? 0 : leadsUp[hand]);
            delaysUp[number] = delayDays + (isTop ? 0 : delaysUp[hand]);
            firstKid[number] = NONE;
            lastKid[number] = NONE;
            nextKid[number] = NONE;
            if (!isTop) {
                if (lastKid[hand] == NONE) {
                    firstKid[hand] = number;
                } else {
                    nextKid[lastKid[hand]] = number;
                }
                lastKid[hand] = number;
            }
            count++;
            return number;
        }

        /** Who hands up first what an account says: its hand; a top account does it itself. */
        int firstHand(int account) {
            return under[account] == NONE ? account : under[account];
        }

        int slowHand(int account) {
            int hand = firstHand(account);
            for (int steps = 0; steps < MOST_ACCOUNTS && hand != NONE; steps++) {
                if (delay[hand] > lead[hand]) {
                    return hand;
                }
                hand = under[hand];
            }
            return NONE;
        }

        /** Adds up from below; a hand has always a lesser number than those under it. */
        void roll(long[] from, long[] into) {
            for (int a = 0; a < count; a++) {
                into[a] = from[a];
            }
            for (int a = count - 1; a > 0; a--) {
                if (under[a] != NONE) {
                    into[under[a]] += into[a];
                }
            }
        }

        void rollRows() {
            for (int row = 0; row < ROWS; row++) {
                roll(mine[row], all[row]);
            }
        }

        /** What comes to a top account for the shares of a row; got is each account's own part then. */
        void part(long amount, int head, int row) {
            owed[head] = amount;
            for (int a = head; a < count; a++) {
                if (top[a] != head) {
                    continue;
                }
                who[0] = a;
                weight[0] = mine[row][a];
                int parts = 1;
                int kid = firstKid[a];
                for (int steps = 0; steps < MOST_ACCOUNTS && kid != NONE; steps++) {
                    who[parts] = kid;
                    weight[parts] = all[row][kid];
                    parts++;
                    kid = nextKid[kid];
                }
                split(owed[a], parts);
                got[a] = share[0];
                for (int i = 1; i < parts; i++) {
                    owed[who[i]] = share[i];
                }
            }
        }

        /** By weights, rounded down; those left one by one to the greatest rests, of like ones the one ahead. */
        void split(long amount, int parts) {
            long weights = 0;
            for (int i = 0; i < parts; i++) {
                weights += weight[i];
            }
            if (weights <= 0) {
                Arrays.fill(share, 0);
                return;
            }
            // The product of amount and weight may pass a long; that of the remainder and weight can't.
            long whole = amount / weights;
            long remainder = amount % weights;
            long left = amount;
            for (int i = 0; i < parts; i++) {
                share[i] = whole * weight[i] + remainder * weight[i] / weights;
                rest[i] = remainder * weight[i] % weights;
                left -= share[i];
            }
            for (int rounds = 0; rounds < parts && left > 0; rounds++) {
                int greatest = 0;
                for (int i = 1; i < parts; i++) {
                    if (rest[i] > rest[greatest]) {
                        greatest = i;
                    }
                }
                share[greatest]++;
                rest[greatest] = NONE;
                left--;
            }
        }
    }

    /** The clauses of an event, and what they bring a top account by its shares in each row. */
    private static final class Text {
        int size;
        int choiceCount;
        int fallback = NONE;
        final int[] kind = new int[MOST_CLAUSES];
        final int[] m = new int[MOST_CLAUSES];
        final int[] q = new int[MOST_CLAUSES];
        final int[] n = new int[MOST_CLAUSES];
        final int[] row = new int[MOST_CLAUSES];
        /** The when right around it: twice its index, one more behind its else; or NONE. */
        final int[] inside = new int[MOST_CLAUSES];
        final int[] most = new int[MOST_CHOICES];
        /** NONE: cut by rata alone. */
        final int[] small = new int[MOST_CHOICES];
        /** By row, the shares of the top account that the clauses work for; of the row OUTSIDE its TOTAL. */
        final long[] holding = new long[ROWS];
        final boolean[] live = new boolean[MOST_CLAUSES];
        /** The rule for fractions that is in force at it. */
        final int[] rule = new int[MOST_CLAUSES];
        final long[] shares = new long[MOST_CLAUSES];
        final long[] pennies = new long[MOST_CLAUSES];

        Text() {
            Arrays.fill(most, NONE);
            Arrays.fill(small, NONE);
        }

        void clear() {
            size = 0;
            choiceCount = 0;
            fallback = NONE;
            Arrays.fill(most, NONE);
            Arrays.fill(small, NONE);
        }

        void work() {
            int now = DOWN;
            int price = 0;
            for (int i = 0; i < size; i++) {
                shares[i] = 0;
                pennies[i] = 0;
                live[i] = isLive(i);
                if (!live[i]) {
                    continue;
                }
                long whole = holding[row[i]];
                rule[i] = now;
                if (kind[i] == FRACTION) {
                    now = m[i];
                    price = n[i];
                } else if (kind[i] == GIVE) {
                    give(i, whole, price);
                } else if (kind[i] == TAKE) {
                    shares[i] = ratio(whole, i);
                } else if (kind[i] == COIN) {
                    pennies[i] = ratio(whole, i);
                } else if (kind[i] == PAY) {
                    pennies[i] = -ratio(whole, i);
                }
            }
        }

        private boolean isLive(int i) {
            if (row[i] != OUTSIDE && holding[row[i]] <= 0) {
                return false;
            }
            if (inside[i] == NONE) {
                return true;
            }
            int when = inside[i] / 2;
            boolean isElse = inside[i] % 2 == 1;
            long has = holding[OUTSIDE];
            boolean holds = q[when] == '<' ? has < m[when] : has > m[when];
            return live[when] && holds != isElse;
        }

        private long ratio(long whole, int i) {
            return n[i] > 0 ? whole * m[i] / n[i] : 0;
        }

        private void give(int i, long whole, int price) {
            if (n[i] <= 0) {
                return;
            }
            long rest = whole * m[i] % n[i];
            shares[i] = whole * m[i] / n[i];
            if (isOneMore(i, rest)) {
                shares[i]++;
            } else if (rule[i] == IN_COIN) {
                pennies[i] = price * rest / n[i];
            }
        }

        /** Whether a give has a share more for the rest that its division leaves. */
        boolean isOneMore(int i, long rest) {
            return rule[i] == UP && rest > 0 || rule[i] == NEAR && 2 * rest >= n[i];
        }

        /** All takes of a row together, at most what is there. */
        long taken(int of) {
            long sum = 0;
            for (int i = 0; i < size; i++) {
                if (kind[i] == TAKE && row[i] == of && live[i]) {
                    sum += shares[i];
                }
            }
            return Math.min(sum, holding[of]);
        }

        /** Whether it changes options: no choices and no whens. */
        boolean isPlain() {
            boolean plain = choiceCount == 0;
            for (int i = 0; i < size; i++) {
                plain = plain && kind[i] != WHEN;
            }
            return plain;
        }

        int firstGive() {
            for (int i = 0; i < size; i++) {
                if (kind[i] == GIVE) {
                    return i;
                }
            }
            return NONE;
        }

        boolean takesAll() {
            boolean all = false;
            for (int i = 0; i < size; i++) {
                all = all || kind[i] == TAKE && m[i] == n[i];
            }
            return all;
        }

        /** 1 and the gives of a paper less the takes, clause behind clause. */
        void addUp(int paper, Fraction sum) {
            sum.put(1);
            for (int i = 0; i < size; i++) {
                if (kind[i] == GIVE && q[i] == paper) {
                    sum.plus(m[i], n[i]);
                } else if (kind[i] == TAKE) {
                    sum.plus(-m[i], n[i]);
                }
            }
        }
    }

    /** The tape, and what reads a text from it, token by token. */
    private static final class Reader {
        private static final int END = 0;
        private static final int WORD = 1;
        private static final int DIGITS = 2;
        private static final int BAD = 3;

        int length;
        int flaw = NONE;
        int place = NONE;
        private final int[] tape = new int[MOST_BYTES];
        private int end;
        private int at;
        private int token;
        private int start;
        private int value;
        private Text text;
        private int told;
        private int depth;
        /** Open blocks: NONE for a choice's, else as Text.inside. */
        private final int[] opens = new int[DEEPEST];
        private boolean takesInside;
        private boolean takesOutside;
        private final int[] nameStart = new int[MOST_CHOICES];
        private final int[] nameEnd = new int[MOST_CHOICES];

        void put(int four) {
            for (int shift = 24; shift >= 0; shift -= 8) {
                if (length < MOST_BYTES) {
                    tape[length] = four >>> shift & 255;
                    length++;
                }
            }
        }

        /** The text of the first n bytes, or null behind a fault. */
        Text read(int n) {
            begin(n);
            for (int steps = 0; steps <= MOST_BYTES && flaw == 0; steps++) {
                if (token == END) {
                    if (depth > 0) {
                        fail(2);
                    }
                    break;
                }
                if (token == '}' && depth > 0) {
                    close();
                } else {
                    clause();
                }
            }
            if (flaw != 0) {
                return null;
            }
            Text ready = text;
            text = null;
            return ready;
        }

        private void begin(int n) {
            if (text == null) {
                text = new Text();
            } else {
                text.clear();
            }
            flaw = 0;
            place = NONE;
            end = n;
            at = 0;
            told = 0;
            depth = 0;
            takesInside = false;
            takesOutside = false;
            advance();
        }

        private void advance() {
            while (at < end && (tape[at] == 32 || tape[at] == 10)) {
                at++;
            }
            start = at;
            if (at >= end) {
                token = END;
            } else if (isLetter(at)) {
                token = WORD;
                while (at < end && isLetter(at)) {
                    at++;
                }
            } else if (isDigit(at)) {
                token = DIGITS;
                value = 0;
                while (at < end && isDigit(at)) {
                    if (at - start < MOST_DIGITS) {
                        value = value * 10 + tape[at] - '0';
                    } else {
                        token = BAD;
                    }
                    at++;
                }
            } else {
                int sign = tape[at];
                boolean known = sign == ';' || sign == '{' || sign == '}' || sign == '<' || sign == '>';
                token = known ? sign : BAD;
                at++;
            }
        }

        private boolean isLetter(int i) {
            return tape[i] >= 'a' && tape[i] <= 'z';
        }

        private boolean isDigit(int i) {
            return tape[i] >= '0' && tape[i] <= '9';
        }

        private boolean fail(int how) {
            if (flaw == 0) {
                flaw = how;
                place = start;
            }
            return false;
        }

        private boolean expect(int wanted) {
            if (flaw != 0) {
                return false;
            }
            if (token == wanted) {
                return true;
            }
            return fail(token == BAD ? 1 : 2);
        }

        private boolean sign(int wanted) {
            if (!expect(wanted)) {
                return false;
            }
            advance();
            return true;
        }

        private void keyword(String wanted) {
            if (!expect(WORD)) {
                return;
            }
            if (is(wanted)) {
                advance();
            } else {
                fail(2);
            }
        }

        private boolean is(String wanted) {
            boolean same = token == WORD && at - start == wanted.length();
            for (int i = 0; same && i < wanted.length(); i++) {
                same = tape[start + i] == wanted.charAt(i);
            }
            return same;
        }

        private int number(int least, int greatest) {
            if (!expect(DIGITS)) {
                return NONE;
            }
            if (value < least || value > greatest) {
                fail(4);
                return NONE;
            }
            int read = value;
            advance();
            return read;
        }

        private void close() {
            depth--;
            int open = opens[depth];
            advance();
            boolean mayElse = open != NONE && open % 2 == 0;
            if (mayElse && is("else")) {
                advance();
                push(open + 1);
            }
        }

        private void push(int open) {
            if (sign('{') && depth < DEEPEST) {
                opens[depth] = open;
                depth++;
            }
        }

        private void clause() {
            if (!expect(WORD)) {
                return;
            }
            int what = clauseWord();
            int how = wordFault(what);
            if (how != 0) {
                fail(how);
                return;
            }
            told++;
            advance();
            switch (what) {
                case WORTH:
                    moveWorth();
                    break;
                case FRACTION:
                    fraction();
                    break;
                case WHEN:
                    when();
                    break;
                case CHOICE:
                    choice();
                    break;
                case DEFAULT:
                    fallback();
                    break;
                case MOST:
                    most();
                    break;
                default:
                    ratio(what);
            }
        }

        private int clauseWord() {
            if (is("give")) {
                return GIVE;
            }
            if (is("take")) {
                return TAKE;
            }
            if (is("coin")) {
                return COIN;
            }
            if (is("pay")) {
                return PAY;
            }
            if (is("worth")) {
                return WORTH;
            }
            if (is("fraction")) {
                return FRACTION;
            }
            if (is("when")) {
                return WHEN;
            }
            if (is("choice")) {
                return CHOICE;
            }
            if (is("default")) {
                return DEFAULT;
            }
            return is("most") ? MOST : NONE;
        }

        /** The least fault that a clause's word may have. */
        private int wordFault(int what) {
            if (what == NONE) {
                return 2;
            }
            if (told >= MOST_CLAUSES || depth >= DEEPEST) {
                return 3;
            }
            if (what == DEFAULT && text.fallback != NONE) {
                return 5;
            }
            return isMisplaced(what) ? 6 : 0;
        }

        private boolean isMisplaced(int what) {
            int in = row();
            if (what == CHOICE || what == DEFAULT) {
                return depth > 0;
            }
            if (what == MOST) {
                return depth != 1 || in == OUTSIDE || text.most[in] != NONE;
            }
            return what == TAKE && (in == OUTSIDE ? takesInside : takesOutside);
        }

        private int row() {
            boolean inChoice = depth > 0 && opens[0] == NONE && text.choiceCount > 0;
            return inChoice ? text.choiceCount - 1 : OUTSIDE;
        }

        /** Keeps a clause that does something, with the block that it stands in. */
        private void store(int what, int m, int q, int n) {
            int index = text.size;
            if (flaw != 0 || index >= MOST_CLAUSES) {
                return;
            }
            text.row[index] = row();
            text.inside[index] = depth > 0 ? opens[depth - 1] : NONE;
            text.kind[index] = what;
            text.m[index] = m;
            text.q[index] = q;
            text.n[index] = n;
            text.size++;
        }

        private void moveWorth() {
            int parts = number(0, WHOLE_WORTH);
            keyword("to");
            int q = number(0, PAPERS - 1);
            sign(';');
            store(WORTH, parts, q, 0);
        }

        private void ratio(int what) {
            boolean ofShares = what == GIVE || what == TAKE;
            int m = ofShares ? number(1, MOST_RATIO) : number(0, GREATEST);
            int q = NONE;
            if (what == GIVE) {
                keyword("of");
                q = number(0, PAPERS - 1);
            }
            keyword("for");
            int n = number(what == TAKE ? m : 1, MOST_RATIO);
            sign(';');
            store(what, m, q, n);
            boolean outside = row() == OUTSIDE;
            takesOutside = takesOutside || what == TAKE && outside;
            takesInside = takesInside || what == TAKE && !outside;
        }

        private void fraction() {
            if (!expect(WORD)) {
                return;
            }
            int price = 0;
            int rule = NONE;
            if (is("down")) {
                rule = DOWN;
            } else if (is("up")) {
                rule = UP;
            } else if (is("near")) {
                rule = NEAR;
            } else if (is("coin")) {
                rule = IN_COIN;
            } else {
                fail(2);
                return;
            }
            advance();
            if (rule == IN_COIN) {
                price = number(0, GREATEST);
            }
            sign(';');
            store(FRACTION, rule, NONE, price);
        }

        private void when() {
            keyword("has");
            int compares = token;
            if (compares == '<' || compares == '>') {
                sign(compares);
            } else {
                expect('<');
            }
            int than = number(0, GREATEST);
            int index = text.size;
            store(WHEN, than, compares, 0);
            push(index * 2);
        }

        private boolean isName() {
            if (!expect(WORD)) {
                return false;
            }
            return at - start <= LONGEST_NAME || fail(2);
        }

        /** Which choice ahead has the name that stands here. */
        private int named() {
            for (int i = 0; i < text.choiceCount; i++) {
                boolean same = at - start == nameEnd[i] - nameStart[i];
                for (int k = 0; same && k < at - start; k++) {
                    same = tape[start + k] == tape[nameStart[i] + k];
                }
                if (same) {
                    return i;
                }
            }
            return NONE;
        }

        private void choice() {
            if (!isName()) {
                return;
            }
            int number = text.choiceCount;
            if (number >= MOST_CHOICES) {
                fail(3);
            } else if (named() != NONE) {
                fail(5);
            } else {
                nameStart[number] = start;
                nameEnd[number] = at;
                text.choiceCount++;
                advance();
                push(NONE);
            }
        }

        private void fallback() {
            if (!isName()) {
                return;
            }
            int number = named();
            if (number == NONE) {
                fail(5);
                return;
            }
            text.fallback = number;
            advance();
            sign(';');
        }

        private void most() {
            int in = row();
            int atMost = number(0, GREATEST);
            int small = NONE;
            if (expect(WORD) && is("small")) {
                advance();
                small = number(0, GREATEST);
            } else {
                keyword("rata");
            }
            sign(';');
            if (in != OUTSIDE) {
                text.most[in] = atMost;
                text.small[in] = small;
            }
        }
    }

    /** All that counts as of a day, run in the order of days; it goes on from where it stands where it can. */
    private static final class Run {
        int asof = LAST_DAY;
        boolean stale = true;
        boolean over;
        final long[][] held = new long[PAPERS][MOST_ACCOUNTS];
        final long[][] taxed = new long[PAPERS][MOST_ACCOUNTS];
        final long[] pennies = new long[MOST_ACCOUNTS];
        final long[] realized = new long[MOST_ACCOUNTS];
        final int[] settled = new int[MOST_TRADES];
        final long[][] kept = new long[MOST_EVENTS][MOST_CHOICES * MOST_ACCOUNTS];
        final Accounts accounts = new Accounts();
        final ArrayList<Entry> issues = new ArrayList<Entry>();
        final ArrayList<Entry> trades = new ArrayList<Entry>();
        final ArrayList<Event> events = new ArrayList<Event>();
        final ArrayList<Pick> picks = new ArrayList<Pick>();
        private final int[] order = new int[MOST_ISSUES + MOST_TRADES + MOST_EVENTS];
        private int count;
        private int next;
        private final long[] cut = new long[MOST_ACCOUNTS];
        private final long[] quota = new long[MOST_ACCOUNTS];
        private final int[] firstGiven = new int[MOST_ACCOUNTS];

        /** Brings the state to the end of a day, or to the event that made too much. */
        void to(int day) {
            if (stale || next > 0 && dayAt(next - 1) > day) {
                restart();
            }
            for (; next < count && !over && dayAt(next) <= day; next++) {
                int kind = order[next] / NUMBERS % KINDS;
                int number = order[next] % NUMBERS;
                if (kind == ISSUING && number < issues.size()) {
                    runIssue(issues.get(number));
                } else if (kind == TRADING && number < trades.size()) {
                    runTrade(trades.get(number), number);
                } else if (kind == HAPPENING && number < events.size()) {
                    runEvent(events.get(number), number);
                }
            }
        }

        private int dayAt(int at) {
            return order[at] / (KINDS * NUMBERS);
        }

        private void restart() {
            stale = false;
            over = false;
            next = 0;
            count = 0;
            for (int paper = 0; paper < PAPERS; paper++) {
                Arrays.fill(held[paper], 0);
                Arrays.fill(taxed[paper], 0);
            }
            Arrays.fill(pennies, 0);
            Arrays.fill(realized, 0);
            Arrays.fill(settled, NONE);
            for (int i = 0; i < issues.size(); i++) {
                line(issues.get(i), issues.get(i).day, ISSUING, i);
            }
            for (int i = 0; i < trades.size(); i++) {
                line(trades.get(i), trades.get(i).day, TRADING, i);
            }
            for (int i = 0; i < events.size(); i++) {
                line(events.get(i), events.get(i).record, HAPPENING, i);
            }
        }

        /** Puts what counts into the order of days, kinds and numbers. */
        private void line(Told told, int day, int kind, int number) {
            if (!told.counts(asof) || count >= order.length) {
                return;
            }
            int key = (day * KINDS + kind) * NUMBERS + number;
            int at = count;
            for (; at > 0 && order[at - 1] > key; at--) {
                order[at] = order[at - 1];
            }
            order[at] = key;
            count++;
        }

        private void runIssue(Entry issue) {
            held[issue.paper][issue.to] += issue.number;
            taxed[issue.paper][issue.to] += issue.pennies;
        }

        private void runTrade(Entry trade, int number) {
            long[] shares = held[trade.paper];
            long[] worths = taxed[trade.paper];
            long has = shares[trade.from];
            if (has < trade.number || has <= 0) {
                settled[number] = 0;
                return;
            }
            long goes = worths[trade.from] * trade.number / has;
            shares[trade.from] -= trade.number;
            shares[trade.to] += trade.number;
            worths[trade.from] -= goes;
            worths[trade.to] += goes;
            settled[number] = 1;
        }

        private boolean inTime(Pick pick, int last) {
            return pick.day + accounts.delaysUp[accounts.firstHand(pick.account)] <= last;
        }

        int choiceOf(int event, int account) {
            Event happened = events.get(event);
            int choice = happened.text.fallback;
            int said = NONE;
            for (int i = 0; i < picks.size(); i++) {
                Pick pick = picks.get(i);
                boolean his = pick.event == event && pick.account == account && pick.counts(asof);
                if (his && pick.day >= said && inTime(pick, happened.last)) {
                    said = pick.day;
                    choice = pick.choice;
                }
            }
            return choice;
        }

        int bearerOf(Pick pick) {
            int last = events.get(pick.event).last;
            boolean good = pick.day <= last - accounts.leadsUp[accounts.firstHand(pick.account)];
            return good && !inTime(pick, last) ? accounts.slowHand(pick.account) : NONE;
        }

        private void runEvent(Event happened, int number) {
            sortShares(happened, number);
            accounts.rollRows();
            cutBack(happened.text);
            accounts.rollRows();
            for (int row = 0; row < MOST_CHOICES; row++) {
                for (int a = 0; a < accounts.count; a++) {
                    kept[number][row * MOST_ACCOUNTS + a] = accounts.mine[row][a];
                }
            }
            Arrays.fill(firstGiven, NONE);
            for (int a = 0; a < accounts.count; a++) {
                if (accounts.top[a] == a) {
                    serve(happened, a);
                }
            }
            moveLeftWorth(happened.paper);
            watch();
        }

        private void sortShares(Event happened, int number) {
            for (int row = 0; row < MOST_CHOICES; row++) {
                Arrays.fill(accounts.mine[row], 0);
            }
            for (int a = 0; a < accounts.count; a++) {
                long shares = held[happened.paper][a];
                accounts.mine[OUTSIDE][a] = shares;
                int choice = happened.text.choiceCount > 0 ? choiceOf(number, a) : NONE;
                if (choice >= 0 && choice < MOST_CHOICES) {
                    accounts.mine[choice][a] = shares;
                }
            }
        }

        /** What is cut comes to the default only behind all cuts, since they go by what was chosen ahead of them. */
        private void cutBack(Text text) {
            Arrays.fill(cut, 0);
            for (int row = 0; row < text.choiceCount; row++) {
                if (text.most[row] == NONE || !allotTops(text, row)) {
                    continue;
                }
                for (int a = 0; a < accounts.count; a++) {
                    if (accounts.top[a] == a) {
                        accounts.part(quota[a], a, row);
                    }
                }
                for (int a = 0; a < accounts.count; a++) {
                    if (row != text.fallback) {
                        cut[a] += accounts.mine[row][a] - accounts.got[a];
                    }
                    accounts.mine[row][a] = accounts.got[a];
                }
            }
            for (int a = 0; a < accounts.count && text.fallback != NONE; a++) {
                accounts.mine[text.fallback][a] += cut[a];
            }
        }

        /** Whether a choice is cut; quota is then what stays of it for each top account. */
        private boolean allotTops(Text text, int row) {
            long left = text.most[row];
            long sum = 0;
            for (int a = 0; a < accounts.count; a++) {
                sum += accounts.top[a] == a ? accounts.all[row][a] : 0;
            }
            if (sum <= left) {
                return false;
            }
            for (int a = 0; a < accounts.count; a++) {
                long offered = accounts.top[a] == a ? accounts.all[row][a] : 0;
                boolean whole = offered <= text.small[row] && offered <= left;
                quota[a] = whole ? offered : 0;
                accounts.weight[a] = whole ? 0 : offered;
                left -= quota[a];
            }
            accounts.split(left, accounts.count);
            for (int a = 0; a < accounts.count; a++) {
                quota[a] += accounts.share[a];
            }
            return true;
        }

        /** Does the clauses for a top account. */
        private void serve(Event happened, int head) {
            Text text = happened.text;
            for (int row = 0; row < ROWS; row++) {
                text.holding[row] = accounts.all[row][head];
            }
            text.work();
            for (int i = 0; i < text.size; i++) {
                if (text.live[i] && text.kind[i] == GIVE) {
                    hand(held[text.q[i]], text.shares[i], head, text.row[i]);
                    noteGiven(text.q[i], text.shares[i], head);
                }
                if (text.live[i] && text.kind[i] == WORTH) {
                    moveWorth(happened.paper, text, i, head);
                }
                hand(pennies, text.pennies[i], head, text.row[i]);
            }
            for (int row = 0; row < ROWS; row++) {
                hand(held[happened.paper], -text.taken(row), head, row);
            }
        }

        /** Parts what comes (or goes, below 0) among a top account and those under it. */
        private void hand(long[] where, long amount, int head, int row) {
            if (amount == 0) {
                return;
            }
            accounts.part(Math.abs(amount), head, row);
            for (int a = head; a < accounts.count; a++) {
                if (accounts.top[a] == head) {
                    where[a] += amount < 0 ? -accounts.got[a] : accounts.got[a];
                }
            }
        }

        private void noteGiven(int paper, long amount, int head) {
            for (int a = head; a < accounts.count && amount > 0; a++) {
                if (accounts.top[a] == head && accounts.got[a] > 0 && firstGiven[a] == NONE) {
                    firstGiven[a] = paper;
                }
            }
        }

        private void moveWorth(int paper, Text text, int i, int head) {
            int row = text.row[i];
            for (int a = head; a < accounts.count; a++) {
                boolean counts = row == OUTSIDE || accounts.mine[row][a] > 0;
                if (counts && accounts.top[a] == head) {
                    long goes = taxed[paper][a] * text.m[i] / WHOLE_WORTH;
                    taxed[paper][a] -= goes;
                    taxed[text.q[i]][a] += goes;
                }
            }
        }

        private void moveLeftWorth(int paper) {
            for (int a = 0; a < accounts.count; a++) {
                if (held[paper][a] == 0) {
                    long left = taxed[paper][a];
                    taxed[paper][a] = 0;
                    if (firstGiven[a] == NONE) {
                        realized[a] += left;
                    } else {
                        taxed[firstGiven[a]][a] += left;
                    }
                }
            }
        }

        /** A top account's total is the greatest of those under it, so it tells of too much for all of them. */
        private void watch() {
            for (int paper = 0; paper < PAPERS; paper++) {
                accounts.roll(held[paper], accounts.owed);
                for (int a = 0; a < accounts.count; a++) {
                    over = over || accounts.owed[a] > MOST_TOTAL;
                }
            }
        }
    }

    /**
     * Shares behind the event that made too much, however many they are: that a trade failed there is told ahead of too
     * much. It does with limbs, and for shares alone, what Run does.
     */
    private static final class Flood {
        private final Accounts accounts;
        /** A number for each paper and account. */
        private final long[][] held = new long[PAPERS * MOST_ACCOUNTS][LIMBS];
        /** As in Accounts, a number for each row and account. */
        private final long[][] mine = new long[ROWS * MOST_ACCOUNTS][LIMBS];
        private final long[][] all = new long[ROWS * MOST_ACCOUNTS][LIMBS];
        private final long[][] owed = new long[MOST_ACCOUNTS][LIMBS];
        private final long[][] got = new long[MOST_ACCOUNTS][LIMBS];
        private final long[][] cut = new long[MOST_ACCOUNTS][LIMBS];
        private final long[] quota = new long[MOST_ACCOUNTS];
        private final int[] who = new int[MOST_ACCOUNTS + 1];
        private final long[][] weight = new long[MOST_ACCOUNTS + 1][LIMBS];
        private final long[][] share = new long[MOST_ACCOUNTS + 1][LIMBS];
        private final long[][] rest = new long[MOST_ACCOUNTS + 1][LIMBS];
        private final long[][] taken = new long[ROWS][LIMBS];
        private final long[] amount = new long[LIMBS];
        private final long[] sum = new long[LIMBS];
        private final long[] left = new long[LIMBS];
        private final long[] one = new long[LIMBS];

        Flood(Accounts accounts) {
            this.accounts = accounts;
            put(one, 1);
        }

        static void put(long[] row, long number) {
            long left = number;
            for (int i = 0; i < LIMBS; i++) {
                row[i] = left & LIMB;
                left >>>= LIMB_BITS;
            }
        }

        private static void copy(long[] from, long[] into) {
            System.arraycopy(from, 0, into, 0, LIMBS);
        }

        /** Both rows may be the same one, as each limb is read ahead of being written. */
        static void addTimes(long[] row, long[] other, long times) {
            long carry = 0;
            for (int i = 0; i < LIMBS; i++) {
                long limb = row[i] + other[i] * times + carry;
                row[i] = limb & LIMB;
                carry = limb >>> LIMB_BITS;
            }
        }

        /** Of a row that is not less than the other. */
        private static void subtract(long[] row, long[] other) {
            long borrow = 0;
            for (int i = 0; i < LIMBS; i++) {
                long limb = row[i] - other[i] - borrow;
                row[i] = limb & LIMB;
                borrow = limb < 0 ? 1 : 0;
            }
        }

        /** Answers what is left over; the divisor is small. */
        private static long divide(long[] row, long divisor) {
            long over = 0;
            for (int i = LIMBS - 1; i >= 0 && divisor > 0; i--) {
                long part = (over << LIMB_BITS) + row[i];
                row[i] = part / divisor;
                over = part % divisor;
            }
            return over;
        }

        static boolean isLess(long[] row, long[] other) {
            int at = LIMBS - 1;
            while (at > 0 && row[at] == other[at]) {
                at--;
            }
            return row[at] < other[at];
        }

        /** As a long; one that is above all numbers of a text is cut, as it is only set against these. */
        private static long cutToLong(long[] row) {
            boolean fits = row[0] < MOST_TOTAL;
            for (int i = 1; i < LIMBS; i++) {
                fits = fits && row[i] == 0;
            }
            return fits ? row[0] : MOST_TOTAL;
        }

        /** From where a run stopped through all that is left of it; its trades are settled then. */
        void goOn(Run run) {
            for (int paper = 0; paper < PAPERS; paper++) {
                for (int a = 0; a < MOST_ACCOUNTS; a++) {
                    put(held[paper * MOST_ACCOUNTS + a], run.held[paper][a]);
                }
            }
            for (int at = run.next; at < run.count; at++) {
                int kind = run.order[at] / NUMBERS % KINDS;
                int number = run.order[at] % NUMBERS;
                if (kind == ISSUING && number < run.issues.size()) {
                    receive(run.issues.get(number));
                } else if (kind == TRADING && number < run.trades.size()) {
                    run.settled[number] = settle(run.trades.get(number));
                } else if (kind == HAPPENING && number < run.events.size()) {
                    happen(run, number);
                }
            }
        }

        private void receive(Entry issue) {
            put(amount, issue.number);
            addTimes(held[issue.paper * MOST_ACCOUNTS + issue.to], amount, 1);
        }

        private int settle(Entry trade) {
            long[] from = held[trade.paper * MOST_ACCOUNTS + trade.from];
            put(amount, trade.number);
            if (isLess(from, amount)) {
                return 0;
            }
            subtract(from, amount);
            addTimes(held[trade.paper * MOST_ACCOUNTS + trade.to], amount, 1);
            return 1;
        }

        private void happen(Run run, int number) {
            Event happened = run.events.get(number);
            for (int i = 0; i < ROWS * MOST_ACCOUNTS; i++) {
                put(mine[i], 0);
            }
            for (int a = 0; a < accounts.count; a++) {
                long[] shares = held[happened.paper * MOST_ACCOUNTS + a];
                copy(shares, mine[OUTSIDE * MOST_ACCOUNTS + a]);
                int choice = run.choiceOf(number, a);
                if (choice >= 0 && choice < MOST_CHOICES) {
                    copy(shares, mine[choice * MOST_ACCOUNTS + a]);
                }
            }
            addUpRows();
            cutBack(happened.text);
            addUpRows();
            for (int a = 0; a < accounts.count; a++) {
                if (accounts.top[a] == a) {
                    serve(happened, a);
                }
            }
        }

        private void addUpRows() {
            for (int row = 0; row < ROWS; row++) {
                int first = row * MOST_ACCOUNTS;
                for (int a = 0; a < accounts.count; a++) {
                    copy(mine[first + a], all[first + a]);
                }
                for (int a = accounts.count - 1; a > 0; a--) {
                    if (accounts.under[a] != NONE) {
                        addTimes(all[first + accounts.under[a]], all[first + a], 1);
                    }
                }
            }
        }

        private void cutBack(Text text) {
            for (int a = 0; a < accounts.count; a++) {
                put(cut[a], 0);
            }
            for (int row = 0; row < text.choiceCount; row++) {
                if (text.most[row] == NONE || !allotTops(text, row)) {
                    continue;
                }
                for (int a = 0; a < accounts.count; a++) {
                    if (accounts.top[a] == a) {
                        put(amount, quota[a]);
                        deal(amount, a, row);
                    }
                }
                for (int a = 0; a < accounts.count; a++) {
                    long[] own = mine[row * MOST_ACCOUNTS + a];
                    if (row != text.fallback) {
                        addTimes(cut[a], own, 1);
                        subtract(cut[a], got[a]);
                    }
                    copy(got[a], own);
                }
            }
            for (int a = 0; a < accounts.count && text.fallback != NONE; a++) {
                addTimes(mine[text.fallback * MOST_ACCOUNTS + a], cut[a], 1);
            }
        }

        private boolean allotTops(Text text, int row) {
            long most = text.most[row];
            put(sum, 0);
            for (int a = 0; a < accounts.count; a++) {
                put(weight[a], 0);
                quota[a] = 0;
                if (accounts.top[a] == a) {
                    copy(all[row * MOST_ACCOUNTS + a], weight[a]);
                    addTimes(sum, weight[a], 1);
                }
            }
            if (cutToLong(sum) <= most) {
                return false;
            }
            for (int a = 0; a < accounts.count; a++) {
                long offered = cutToLong(weight[a]);
                if (offered <= text.small[row] && offered <= most) {
                    put(weight[a], 0);
                    quota[a] = offered;
                    most -= offered;
                }
            }
            put(amount, most);
            apportion(amount, accounts.count);
            for (int a = 0; a < accounts.count; a++) {
                quota[a] += cutToLong(share[a]);
            }
            return true;
        }

        /** Text.work tells by cut holdings which clauses are done; how much they give and take is worked out here. */
        private void serve(Event happened, int head) {
            Text text = happened.text;
            for (int row = 0; row < ROWS; row++) {
                text.holding[row] = cutToLong(all[row * MOST_ACCOUNTS + head]);
                put(taken[row], 0);
            }
            text.work();
            for (int i = 0; i < text.size; i++) {
                if (text.live[i] && text.kind[i] == TAKE) {
                    multiply(text, i, head);
                    addTimes(taken[text.row[i]], amount, 1);
                } else if (text.live[i] && text.kind[i] == GIVE) {
                    if (text.isOneMore(i, multiply(text, i, head))) {
                        addTimes(amount, one, 1);
                    }
                    deal(amount, head, text.row[i]);
                    come(text.q[i], head);
                }
            }
            for (int row = 0; row < ROWS; row++) {
                long[] most = all[row * MOST_ACCOUNTS + head];
                copy(isLess(most, taken[row]) ? most : taken[row], amount);
                deal(amount, head, row);
                go(happened.paper, head);
            }
        }

        /** The amount is m by n of what a top account has in a clause's row; answers what is left over. */
        private long multiply(Text text, int i, int head) {
            put(amount, 0);
            addTimes(amount, all[text.row[i] * MOST_ACCOUNTS + head], text.m[i]);
            return divide(amount, text.n[i]);
        }

        private void come(int paper, int head) {
            for (int a = head; a < accounts.count; a++) {
                if (accounts.top[a] == head) {
                    addTimes(held[paper * MOST_ACCOUNTS + a], got[a], 1);
                }
            }
        }

        private void go(int paper, int head) {
            for (int a = head; a < accounts.count; a++) {
                if (accounts.top[a] == head) {
                    subtract(held[paper * MOST_ACCOUNTS + a], got[a]);
                }
            }
        }

        private void deal(long[] comes, int head, int row) {
            copy(comes, owed[head]);
            for (int a = head; a < accounts.count; a++) {
                if (accounts.top[a] != head) {
                    continue;
                }
                copy(mine[row * MOST_ACCOUNTS + a], weight[0]);
                int parts = 1;
                int kid = accounts.firstKid[a];
                for (int steps = 0; steps < MOST_ACCOUNTS && kid != NONE; steps++) {
                    who[parts] = kid;
                    copy(all[row * MOST_ACCOUNTS + kid], weight[parts]);
                    parts++;
                    kid = accounts.nextKid[kid];
                }
                apportion(owed[a], parts);
                copy(share[0], got[a]);
                for (int i = 1; i < parts; i++) {
                    copy(share[i], owed[who[i]]);
                }
            }
        }

        private void apportion(long[] comes, int parts) {
            put(sum, 0);
            for (int i = 0; i < parts; i++) {
                addTimes(sum, weight[i], 1);
            }
            copy(comes, left);
            for (int i = 0; i < parts; i++) {
                portion(comes, i);
                subtract(left, share[i]);
            }
            for (int rounds = 0; rounds < parts && left[0] > 0; rounds++) {
                int greatest = 0;
                for (int i = 1; i < parts; i++) {
                    if (isLess(rest[greatest], rest[i])) {
                        greatest = i;
                    }
                }
                addTimes(share[greatest], one, 1);
                put(rest[greatest], 0);
                left[0]--;
            }
        }

        /** What comes times weight by the sum of weights, bit by bit: at each the rest is below three times that sum. */
        private void portion(long[] comes, int i) {
            put(share[i], 0);
            put(rest[i], 0);
            if (cutToLong(weight[i]) == 0) {
                return;
            }
            int limbs = LIMBS;
            while (limbs > 0 && comes[limbs - 1] == 0) {
                limbs--;
            }
            for (int bit = limbs * LIMB_BITS - 1; bit >= 0; bit--) {
                addTimes(share[i], share[i], 1);
                addTimes(rest[i], rest[i], 1);
                addTimes(rest[i], weight[i], comes[bit / LIMB_BITS] >> bit % LIMB_BITS & 1);
                for (int twice = 0; twice < 2 && !isLess(rest[i], sum); twice++) {
                    subtract(rest[i], sum);
                    addTimes(share[i], one, 1);
                }
            }
        }
    }

    /** Held without a common divisor, the lower number above 0; over once a part was too great. */
    private static final class Fraction {
        private static final int MOST_STEPS = 100;

        long above;
        long below = 1;
        boolean over;
        /** The sum once more, however great its parts: what came less what went, both by one lower number. */
        private final long[] came = new long[LIMBS];
        private final long[] went = new long[LIMBS];
        private final long[] by = new long[LIMBS];

        void put(long whole) {
            above = whole;
            below = 1;
            over = false;
            Flood.put(came, whole);
            Flood.put(went, 0);
            Flood.put(by, 1);
        }

        /** By m / n, both above 0 and not above MOST_PART; divided first so that no product passes a long. */
        void times(long m, long n) {
            if (over || m <= 0 || n <= 0) {
                return;
            }
            long own = divisor(m, n);
            long byM = m / own;
            long byN = n / own;
            long one = divisor(above, byN);
            long other = divisor(byM, below);
            byN /= one;
            byM /= other;
            long up = above / one;
            long low = below / other;
            if (up > MOST_PART / byM || low > MOST_PART / byN) {
                over = true;
                return;
            }
            above = up * byM;
            below = low * byN;
        }

        void plus(long m, long n) {
            if (n <= 0) {
                return;
            }
            Flood.addTimes(came, came, n - 1);
            Flood.addTimes(went, went, n - 1);
            Flood.addTimes(m < 0 ? went : came, by, Math.abs(m));
            Flood.addTimes(by, by, n - 1);
            if (over) {
                return;
            }
            long up = above * n + m * below;
            long low = below * n;
            long common = divisor(up, low);
            above = up / common;
            below = low / common;
            over = Math.abs(above) > MOST_PART || below > MOST_PART;
        }

        /** Whether it is above 0, which can be told past too much. */
        boolean isLeft() {
            return Flood.isLess(went, came);
        }

        /** Never below 1, so that it may divide. */
        private static long divisor(long a, long b) {
            long one = Math.abs(a);
            long other = Math.abs(b);
            for (int steps = 0; steps < MOST_STEPS && other != 0; steps++) {
                long rest = one % other;
                one = other;
                other = rest;
            }
            return one > 0 ? one : 1;
        }
    }

    /** The hints, and the search for the fewest that explain an old paper. */
    private static final class Riddle {
        private static final int MOST_WAYS = 1 << MOST_HINTS;

        int count;
        int ways;
        int keptWays;
        int keptSet;
        private int bestSet;
        private final int[] from = new int[MOST_HINTS];
        private final int[] to = new int[MOST_HINTS];
        private final int[] day = new int[MOST_HINTS];
        private final int[] m = new int[MOST_HINTS];
        private final int[] n = new int[MOST_HINTS];
        private final boolean[] sure = new boolean[MOST_HINTS];
        /** Hints by days, of one day by numbers. */
        private final int[] order = new int[MOST_HINTS];
        /** Where the search left a hint out and has still to go on from. */
        private int open;
        private final int[] step = new int[MOST_HINTS + 1];
        private final int[] paperAt = new int[MOST_HINTS + 1];
        private final long[] sharesAt = new long[MOST_HINTS + 1];
        private final int[] setAt = new int[MOST_HINTS + 1];

        int add(int fromPaper, int toPaper, int onDay, int by, int per, boolean isSure) {
            int number = count;
            from[number] = fromPaper;
            to[number] = toPaper;
            day[number] = onDay;
            m[number] = by;
            n[number] = per;
            sure[number] = isSure;
            int at = count;
            for (; at > 0 && day[order[at - 1]] > onDay; at--) {
                order[at] = order[at - 1];
            }
            order[at] = number;
            count++;
            return number;
        }

        void solve(int paper, int shares, int since, int now, int has, int later) {
            ways = 0;
            bestSet = 0;
            open = 0;
            leave(0, paper, shares, 0);
            for (int tries = 0; tries < MOST_WAYS && open > 0; tries++) {
                open--;
                int set = walk(since, now, has, later);
                if (set != NONE) {
                    weigh(set);
                }
            }
        }

        private void leave(int at, int paper, long shares, int set) {
            if (open < step.length) {
                step[open] = at;
                paperAt[open] = paper;
                sharesAt[open] = shares;
                setAt[open] = set;
                open++;
            }
        }

        /** From what was left last to the later day, with every hint that fits; the set, if it explains. */
        private int walk(int since, int now, int has, int later) {
            int start = step[open];
            int paper = paperAt[open];
            long shares = sharesAt[open];
            int set = setAt[open];
            for (int at = start; at < count; at++) {
                int hint = order[at];
                if (from[hint] != paper || day[hint] <= since || day[hint] > later || n[hint] <= 0) {
                    continue;
                }
                if (!sure[hint]) {
                    leave(at + 1, paper, shares, set);
                    set |= 1 << hint;
                }
                shares = shares * m[hint] / n[hint];
                paper = to[hint];
                if (shares > MOST_PART) {
                    return NONE;
                }
            }
            return paper == now && shares == has ? set : NONE;
        }

        private void weigh(int set) {
            int size = Integer.bitCount(set);
            int best = Integer.bitCount(bestSet);
            if (ways == 0 || size < best) {
                ways = 1;
                bestSet = set;
            } else if (size == best) {
                ways++;
                int differ = set ^ bestSet;
                if ((set & differ & -differ) != 0) {
                    bestSet = set;
                }
            }
        }

        void keep() {
            keptWays = ways;
            keptSet = bestSet;
        }

        /** The k-th hint of the set kept. */
        int inSet(int k) {
            int so = 0;
            for (int hint = 0; hint < count; hint++) {
                if ((keptSet >> hint & 1) == 1) {
                    if (so == k) {
                        return hint;
                    }
                    so++;
                }
            }
            return NONE;
        }
    }
}
