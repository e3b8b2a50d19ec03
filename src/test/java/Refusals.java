import java.util.ArrayList;
import java.util.List;

/**
 * Each parameter of each call at its least and its greatest number, one beyond both, and at the ends of int; two wrong
 * ones at once, and wrong ones where all is full, for the order of STATUS; and that a refused call changes nothing but
 * STATUS.
 */
public final class Refusals extends Checks {
    private static final int DAYS = 40000;
    /** The latest day that the house's tellings are known on. */
    private static final int KNOWN = 5;

    interface Call {
        long on(ShareLife house, int[] a);
    }

    /** A call with arguments that are fine, and what other ones are due to bring. */
    private static final class Row {
        final String name;
        final Call call;
        final int[] good;
        final long refusal;
        int limit;
        /** Each {parameter, number, status}. */
        final List<int[]> edges = new ArrayList<>();

        Row(String name, long refusal, Call call, int... good) {
            this.name = name;
            this.refusal = refusal;
            this.call = call;
            this.good = good;
        }

        /** A parameter that may be from least to greatest; those have a status too, if they are no good here. */
        Row from(int parameter, int least, int greatest, int beyond, int... within) {
            edge(parameter, least, within.length > 0 ? within[0] : 0);
            edge(parameter, greatest, within.length > 1 ? within[1] : 0);
            edge(parameter, least - 1, beyond);
            edge(parameter, greatest + 1, beyond);
            edge(parameter, Integer.MIN_VALUE, beyond);
            edge(parameter, Integer.MAX_VALUE, beyond);
            return this;
        }

        Row edge(int parameter, int number, int status) {
            edges.add(new int[] {parameter, number, status});
            return this;
        }

        Row day(int parameter, int... within) {
            return from(parameter, 0, DAYS, 2, within);
        }

        Row paper(int parameter, int... within) {
            return from(parameter, 0, 19, 1, within);
        }

        Row account(int parameter) {
            return from(parameter, 0, 2, 1);
        }

        /** The day that a telling names. */
        Row known(int parameter) {
            edge(parameter, KNOWN, 0);
            edge(parameter, DAYS, 0);
            edge(parameter, KNOWN - 1, 4);
            edge(parameter, 0, 4);
            edge(parameter, -1, 2);
            edge(parameter, DAYS + 1, 2);
            edge(parameter, Integer.MIN_VALUE, 2);
            edge(parameter, Integer.MAX_VALUE, 2);
            return this;
        }

        /** How many more calls with the good arguments the house takes. */
        Row most(int more) {
            limit = more;
            return this;
        }

        int[] with(int[] edge, int[] other) {
            int[] a = good.clone();
            a[edge[0]] = edge[1];
            if (other != null) {
                a[other[0]] = other[1];
            }
            return a;
        }

        /** What comes first of several: the status, but that strike looks at its what ahead of all. */
        int rank(int[] edge) {
            return name.equals("strike") && edge[0] == 0 ? 0 : edge[2];
        }
    }

    /** Three accounts, two events (one of them with two choices), two trades, CHOICES, options; all papers are named. */
    private static ShareLife house() {
        ShareLife house = new ShareLife();
        house.account(NONE, 1, 2);
        house.account(0, 3, 4);
        house.account(NONE, 0, 0);
        for (int i = 0; i < 3; i++) {
            house.issue(i, 0, 10, 100 + i, 1000 + i, 1);
        }
        house.trade(0, 1, 0, 5, 20, 21, 1);
        house.trade(2, 1, 0, 6, 22, 24, 2);
        tell(house, 21, 21, "choice a{coin 3 for 2;take 1 for 4;}choice b{give 1 of 1 for 2;most 50 rata;}default a;", 2);
        tell(house, 23, 23, "give 1 of 0 for 3;worth 100 to 2;coin 7 for 1;", 3);
        house.choose(0, 1, 1, 3, 3);
        house.choose(0, 2, 1, 21, 3);
        house.choose(0, 0, 1, 20, 3);
        house.option(0, 20, 500, 10, 4);
        house.option(0, 24, 600, 20, 4);
        for (int paper = 0; paper < 20; paper++) {
            house.name(paper, paper / 2, 0, 4);
        }
        house.hint(0, 1, 30, 2, 1, false);
        house.hint(0, 0, 31, 2, 1, false);
        house.rate(0, 9);
        house.rate(1, 8);
        house.explain(0, 100, 25, 0, 200, 40);
        house.term(0, 0, 23);
        house.name(19, 9999, DAYS, KNOWN);
        feed(house, "pay 1 for 1;");
        return house;
    }

    private static void tell(ShareLife house, int ex, int record, String text, int known) {
        feed(house, text);
        house.event(0, text.length(), ex, record, 25, known);
    }

    private static long bool(boolean answer) {
        return answer ? 1 : 0;
    }

    private static List<Row> told() {
        List<Row> rows = new ArrayList<>();
        rows.add(new Row("asof", 0, (h, a) -> bool(h.asof(a[0])), 30).day(0));
        rows.add(new Row("account", NONE, (h, a) -> h.account(a[0], a[1], a[2]), 0, 5, 5)
                .from(0, NONE, 2, 1).from(1, 0, 30, 2).from(2, 0, 30, 2).most(17));
        rows.add(new Row("issue", 0, (h, a) -> bool(h.issue(a[0], a[1], a[2], a[3], a[4], a[5])), 1, 1, 30, 5, 5, 9)
                .account(0).paper(1).day(2).from(3, 1, 1000000, 2).from(4, 0, 100000000, 2).known(5).most(37));
        rows.add(new Row("trade", NONE, (h, a) -> h.trade(a[0], a[1], a[2], a[3], a[4], a[5], a[6]), 0, 1, 0, 5, 30, 32, 9)
                .from(0, 0, 2, 1).edge(0, 1, 1).from(1, 1, 2, 1).paper(2).from(3, 1, 1000000, 2)
                .from(4, 0, 32, 2).from(5, 30, DAYS, 2).known(6).most(38));
        rows.add(new Row("event", NONE, (h, a) -> h.event(a[0], a[1], a[2], a[3], a[4], a[5]), 0, 12, 100, 100, 110, 9)
                .paper(0).from(1, 0, 20, 2).from(2, 90, 110, 2).from(3, 90, 110, 2).from(4, 100, DAYS, 2).known(5)
                .edge(1, 11, 6).edge(1, 1, 6));
        rows.add(new Row("choices", NONE, (h, a) -> h.choices(a[0]), 0).from(0, 0, 1, 1));
        rows.add(new Row("choose", NONE, (h, a) -> h.choose(a[0], a[1], a[2], a[3], a[4]), 0, 1, 1, 9, 9)
                .from(0, 0, 1, 1, 0, 1).account(1).from(2, 0, 1, 1).day(3).known(4).most(57));
        rows.add(new Row("strike", 0, (h, a) -> bool(h.strike(a[0], a[1], a[2])), 0, 1, 9)
                .from(0, 0, 2, 2).from(1, 0, 1, 1).known(2));
        return rows;
    }

    private static List<Row> became() {
        List<Row> rows = new ArrayList<>();
        rows.add(new Row("own", NONE, (h, a) -> h.own(a[0], a[1], a[2]), 1, 0, 30).account(0).paper(1).day(2));
        rows.add(new Row("total", NONE, (h, a) -> h.total(a[0], a[1], a[2]), 1, 0, 30).account(0).paper(1).day(2));
        rows.add(new Row("worth", NONE, (h, a) -> h.worth(a[0], a[1], a[2]), 1, 0, 30).account(0).paper(1).day(2));
        rows.add(new Row("coin", NONE, (h, a) -> h.coin(a[0], a[1], a[2]), 1, 0, 30).account(0).from(1, 0, 1, 2).day(2));
        rows.add(new Row("chosen", NONE, (h, a) -> h.chosen(a[0], a[1]), 0, 1).from(0, 0, 1, 1, 0, 5).account(1));
        rows.add(new Row("stays", NONE, (h, a) -> h.stays(a[0], a[1], a[2]), 0, 1, 0)
                .from(0, 0, 1, 1, 0, 1).account(1).from(2, 0, 1, 1));
        rows.add(new Row("bears", NONE, (h, a) -> h.bears(a[0]), 2).from(0, 0, 2, 1, 5, 5));
        rows.add(new Row("done", NONE, (h, a) -> h.done(a[0]), 0).from(0, 0, 1, 1));
        rows.add(new Row("due", NONE, (h, a) -> h.due(a[0], a[1], a[2]), 1, 1, 0)
                .from(0, 0, 1, 1).from(1, 0, 1, 1, 7).from(2, NONE, 19, 1));
        return rows;
    }

    private static List<Row> others() {
        List<Row> rows = new ArrayList<>();
        rows.add(new Row("option", NONE, (h, a) -> h.option(a[0], a[1], a[2], a[3], a[4]), 3, 30, 5, 5, 9)
                .paper(0).day(1).from(2, 1, 1000000, 2).from(3, 1, 10000, 2).known(4).most(8));
        rows.add(new Row("optionOn", NONE, (h, a) -> h.optionOn(a[0], a[1]), 0, 30).from(0, 0, 1, 1).from(1, 20, DAYS, 2));
        rows.add(new Row("term", 0, (h, a) -> bool(h.term(a[0], a[1], a[2])), 0, 1, 30)
                .from(0, 0, 1, 1).from(1, 0, 1, 2).from(2, 20, DAYS, 2));
        rows.add(new Row("rate", 0, (h, a) -> bool(h.rate(a[0], a[1])), 3, 9).paper(0).from(1, 0, 100000, 2));
        rows.add(new Row("brings", NONE, (h, a) -> h.brings(a[0], a[1], a[2]), 0, 1, 9)
                .from(0, 0, 1, 1, 0, 1).from(1, NONE, 1, 1).from(2, 1, 1000000, 2));
        rows.add(new Row("best", NONE, (h, a) -> h.best(a[0], a[1]), 0, 9).from(0, 0, 1, 1, 0, 5).from(1, 1, 1000000, 2));
        rows.add(new Row("name", 0, (h, a) -> bool(h.name(a[0], a[1], a[2], a[3])), 3, 9, 30, 9)
                .paper(0).from(1, 0, 9999, 2).day(2).known(3).most(39));
        rows.add(new Row("called", NONE, (h, a) -> h.called(a[0], a[1]), 3, 30).paper(0).day(1));
        rows.add(new Row("find", NONE, (h, a) -> h.find(a[0], a[1], a[2]), 4, DAYS, 1)
                .from(0, 0, 9999, 2, 0, 5).day(1).from(2, 0, 1, 5));
        rows.add(new Row("hint", NONE, (h, a) -> h.hint(a[0], a[1], a[2], a[3], a[4], a[5] != 0), 3, 4, 30, 5, 5, 1)
                .paper(0).paper(1).day(2).from(3, 1, 1000, 2).from(4, 1, 1000, 2).most(10));
        rows.add(new Row("explain", NONE, (h, a) -> h.explain(a[0], a[1], a[2], a[3], a[4], a[5]), 0, 9, 20, 0, 9, 40)
                .paper(0, 0, 5).from(1, 1, 1000000, 2, 5, 5).from(2, 0, 39, 2).paper(3, 0, 5)
                .edge(4, LEAST, 5).edge(4, GREATEST, 5).from(5, 21, DAYS, 2));
        rows.add(new Row("because", NONE, (h, a) -> h.because(a[0]), 0).from(0, 0, 0, 5));
        return rows;
    }

    private static String say(Row row, int[] a) {
        StringBuilder b = new StringBuilder(row.name).append(" of");
        for (int v : a) {
            b.append(' ').append(v);
        }
        return b.toString();
    }

    private static void answers(ShareLife house, Row row, int[] a, int status) {
        long got = row.call.on(house, a);
        due("status behind " + say(row, a), house.status(), status);
        if (status != 0) {
            due(say(row, a), got, row.refusal);
        }
    }

    private static void edges(Row row) {
        answers(house(), row, row.good, row.name.equals("bears") ? 5 : 0);
        for (int[] edge : row.edges) {
            answers(house(), row, row.with(edge, null), edge[2]);
        }
    }

    /** Numbers at the ends of int are wrong whatever the others are. */
    private static boolean isFar(int[] edge) {
        return edge[2] != 0 && (edge[1] == LEAST || edge[1] == GREATEST || edge[2] == 4);
    }

    private static void twoAtOnce(Row row) {
        for (int[] one : row.edges) {
            for (int[] other : row.edges) {
                if (one[0] < other[0] && isFar(one) && isFar(other)) {
                    int status = row.rank(one) <= row.rank(other) ? one[2] : other[2];
                    answers(house(), row, row.with(one, other), status);
                }
            }
        }
    }

    /** A telling one too many comes behind a number that can't be and ahead of a day that is gone. */
    private static void full(Row row) {
        ShareLife house = house();
        for (int i = 0; i < row.limit; i++) {
            answers(house, row, row.good, 0);
        }
        answers(house, row, row.good, 3);
        for (int[] edge : row.edges) {
            if (edge[2] == 0 || isFar(edge)) {
                answers(house, row, row.with(edge, null), edge[2] == 1 || edge[2] == 2 ? edge[2] : 3);
            }
        }
    }

    private static List<Long> look(ShareLife house, boolean tapeStands) {
        List<Long> seen = new ArrayList<>();
        seen.add(house.upper());
        seen.add(house.lower());
        seen.add((long) house.fault(0));
        seen.add((long) house.fault(1));
        seen.add((long) house.rivals());
        seen.add((long) house.because(0));
        for (int account = 0; account < 3; account++) {
            for (int paper = 0; paper < 3; paper++) {
                seen.add((long) house.own(account, paper, 30));
                seen.add((long) house.total(account, paper, DAYS));
                seen.add(house.worth(account, paper, 30));
            }
            seen.add(house.coin(account, 0, 30));
            seen.add(house.coin(account, 1, 30));
            seen.add((long) house.chosen(0, account));
            seen.add((long) house.stays(0, account, 0));
            seen.add((long) house.stays(0, account, 1));
            seen.add((long) house.bears(account));
        }
        for (int trade = 0; trade < 2; trade++) {
            seen.add((long) house.done(trade));
            seen.add(house.due(trade, 1, NONE));
            seen.add((long) house.optionOn(trade, 30));
        }
        for (int paper = 0; paper < 20; paper++) {
            seen.add((long) house.called(paper, DAYS));
        }
        seen.add(house.brings(0, 1, 1000));
        seen.add((long) house.explain(0, 100, 25, 0, 200, 40));
        tellMore(house, tapeStands, seen);
        return seen;
    }

    /** What the next tellings answer shows how many there are, and the latest day. */
    private static void tellMore(ShareLife house, boolean tapeStands, List<Long> seen) {
        if (!tapeStands) {
            feed(house, "pay 1 for 1;");
        }
        seen.add((long) house.account(0, 0, 0));
        seen.add(bool(house.issue(0, 0, 10, 1, 1, KNOWN)));
        seen.add((long) house.trade(0, 1, 0, 1, 1, 1, KNOWN));
        seen.add((long) house.event(0, 12, 50, 50, 50, KNOWN));
        seen.add((long) house.choose(0, 0, 0, 1, KNOWN));
        seen.add((long) house.option(0, 1, 1, 1, KNOWN));
        seen.add(bool(house.name(0, 1, 1, KNOWN)));
        seen.add((long) house.hint(0, 0, 1, 1, 1, true));
        seen.add(bool(house.strike(0, 1, KNOWN)));
        seen.add((long) house.feed(0, 0, 0, 0, 0));
        seen.add((long) house.own(0, 0, 30));
        seen.add(house.coin(0, 0, 60));
        seen.add((long) house.status());
    }

    private static void changesNothing(Row row) {
        ShareLife plain = house();
        List<Long> before = look(plain, true);
        for (int[] edge : row.edges) {
            ShareLife house = house();
            answers(house, row, row.with(edge, null), edge[2]);
            // A fault empties the tape, and is told by fault(): both by the document's words.
            if (edge[2] != 0 && edge[2] != 6) {
                List<Long> behind = look(house, true);
                due("as much behind " + say(row, row.with(edge, null)), behind.equals(before) ? 1 : 0, 1);
            }
        }
    }

    /** A feed that would be too much, and calls without a STATUS, change nothing at all. */
    private static void withoutStatus() {
        about = "status(), upper(), lower(), fault(), feed() have none.";
        ShareLife house = house();
        house.own(9, 0, 0);
        house.status();
        house.upper();
        house.lower();
        for (int what : new int[] {LEAST, -1, 0, 1, 2, GREATEST}) {
            house.fault(what);
        }
        for (int fed = 40; fed <= 400; fed += 20) {
            due("feed", house.feed(0, 0, 0, 0, 0), fed);
        }
        due("feed beyond 400", house.feed(0, 0, 0, 0, 0), NONE);
        due("status", house.status(), 1);
    }

    public static void main(String[] args) {
        about = "STATUS of a call is the first of these that holds";
        List<Row> rows = told();
        rows.addAll(became());
        rows.addAll(others());
        for (Row row : rows) {
            about = "STATUS of a call is the first of these that holds";
            edges(row);
            twoAtOnce(row);
            if (row.limit > 0) {
                about = "3 one too many";
                full(row);
            }
            about = "changes nothing but STATUS";
            changesNothing(row);
        }
        withoutStatus();
        end();
    }
}
