import java.math.BigInteger;
import java.util.ArrayList;
import java.util.Arrays;
import java.util.Comparator;
import java.util.HashMap;
import java.util.List;
import java.util.Map;
import java.util.Random;

/**
 * Random runs of calls, each answer set against a second, plain reading of the document (recursive, over
 * BigInteger, worked out anew for each question). An argument that is a number alone says how many runs.
 */
public final class AgainstOracle {
    static final int NONE = -1;

    // ---------------------------------------------------------------- the second reading

    static class Fact {
        int known;
        int struck = Integer.MAX_VALUE;
        int number;

        boolean seen(int asof) {
            return known <= asof && asof < struck;
        }
    }

    static class Happening extends Fact {
        int day;
        int rank;
        int from;
        int to;
        int paper;
        int shares;
        int worth;
        int dealt;
        int ex;
        int last;
        Script script;
    }

    static class Said extends Fact {
        int event;
        int account;
        int choice;
        int day;
    }

    static class Opt extends Fact {
        int paper;
        int day;
        int strike;
        int count;
    }

    static class Node {
        String word;
        int[] num = new int[3];
        String rule = "";
        List<Node> body = new ArrayList<>();
        List<Node> other = new ArrayList<>();
    }

    static class Script {
        List<Node> nodes;
        List<Node> choices = new ArrayList<>();
        List<String> names = new ArrayList<>();
        String fallback;
        int clauses;
        boolean takeIn;
        boolean takeOut;

        int standard() {
            return fallback == null ? NONE : names.indexOf(fallback);
        }
    }

    static class Flaw extends Exception {
        private static final long serialVersionUID = 1L;
        final int kind;
        final int place;

        Flaw(int kind, int place) {
            this.kind = kind;
            this.place = place;
        }
    }

    static class Tok {
        char kind; // w, n, s, x (bad), e (end)
        String text;
        int place;
    }

    static class Parser {
        final List<Tok> toks = new ArrayList<>();
        int at;
        final Script script = new Script();

        Parser(String text) {
            int i = 0;
            while (i < text.length()) {
                char c = text.charAt(i);
                if (c == ' ' || c == '\n') {
                    i++;
                    continue;
                }
                int j = i + 1;
                char kind = 'x';
                if (c >= 'a' && c <= 'z') {
                    while (j < text.length() && text.charAt(j) >= 'a' && text.charAt(j) <= 'z') {
                        j++;
                    }
                    kind = 'w';
                } else if (c >= '0' && c <= '9') {
                    while (j < text.length() && text.charAt(j) >= '0' && text.charAt(j) <= '9') {
                        j++;
                    }
                    kind = j - i <= 7 ? 'n' : 'x';
                } else if (";{}<>".indexOf(c) >= 0) {
                    kind = 's';
                }
                put(kind, text.substring(i, j), i);
                i = j;
            }
            put('e', "", text.length());
        }

        void put(char kind, String text, int place) {
            Tok t = new Tok();
            t.kind = kind;
            t.text = text;
            t.place = place;
            toks.add(t);
        }

        Tok now() {
            return toks.get(at);
        }

        void bad(boolean holds, int kind) throws Flaw {
            if (holds) {
                throw new Flaw(now().kind == 'x' ? 1 : kind, now().place);
            }
        }

        void eat(String text) throws Flaw {
            bad(!now().text.equals(text) || now().kind == 'e', 2);
            at++;
        }

        int num(int least, int most) throws Flaw {
            bad(now().kind != 'n', 2);
            int n = Integer.parseInt(now().text);
            bad(n < least || n > most, 4);
            at++;
            return n;
        }

        Script parse() throws Flaw {
            script.nodes = block(0, false, NONE);
            bad(now().kind != 'e', 2);
            return script;
        }

        List<Node> block(int deep, boolean rightInChoice, int choice) throws Flaw {
            List<Node> nodes = new ArrayList<>();
            while (now().kind != 'e' && !now().text.equals("}")) {
                bad(now().kind != 'w', 2);
                nodes.add(one(deep, rightInChoice, choice, nodes));
            }
            return nodes;
        }

        Node one(int deep, boolean rightInChoice, int choice, List<Node> ahead) throws Flaw {
            Node node = new Node();
            node.word = now().text;
            String w = node.word;
            bad(!List.of("give", "take", "coin", "pay", "worth", "fraction", "when", "choice", "default", "most").contains(w), 2);
            bad(script.clauses == 30, 3);
            bad(deep >= 3, 3);
            bad(w.equals("default") && script.fallback != null, 5);
            bad((w.equals("choice") || w.equals("default")) && deep > 0, 6);
            if (w.equals("most")) {
                bad(!rightInChoice, 6);
                for (Node other : ahead) {
                    bad(other.word.equals("most"), 6);
                }
            }
            if (w.equals("take")) {
                bad(choice == NONE ? script.takeIn : script.takeOut, 6);
                if (choice == NONE) {
                    script.takeOut = true;
                } else {
                    script.takeIn = true;
                }
            }
            script.clauses++;
            at++;
            rest(node, deep, choice);
            return node;
        }

        void rest(Node node, int deep, int choice) throws Flaw {
            String w = node.word;
            switch (w) {
                case "give":
                    node.num[0] = num(1, 1000);
                    eat("of");
                    node.num[1] = num(0, 19);
                    eat("for");
                    node.num[2] = num(1, 1000);
                    eat(";");
                    break;
                case "take":
                    node.num[0] = num(1, 1000);
                    eat("for");
                    node.num[2] = num(node.num[0], 1000);
                    eat(";");
                    break;
                case "coin":
                case "pay":
                    node.num[0] = num(0, 9999999);
                    eat("for");
                    node.num[2] = num(1, 1000);
                    eat(";");
                    break;
                case "worth":
                    node.num[0] = num(0, 1000);
                    eat("to");
                    node.num[1] = num(0, 19);
                    eat(";");
                    break;
                case "fraction":
                    node.rule = now().text;
                    bad(!List.of("down", "up", "near", "coin").contains(node.rule), 2);
                    at++;
                    if (node.rule.equals("coin")) {
                        node.num[0] = num(0, 9999999);
                    }
                    eat(";");
                    break;
                case "when":
                    eat("has");
                    node.rule = now().text;
                    bad(!node.rule.equals("<") && !node.rule.equals(">"), 2);
                    at++;
                    node.num[0] = num(0, 9999999);
                    eat("{");
                    node.body = block(deep + 1, false, choice);
                    eat("}");
                    if (now().text.equals("else")) {
                        at++;
                        eat("{");
                        node.other = block(deep + 1, false, choice);
                        eat("}");
                    }
                    break;
                case "choice":
                    bad(now().kind != 'w' || now().text.length() > 8, 2);
                    bad(script.names.size() == 3, 3);
                    bad(script.names.contains(now().text), 5);
                    script.names.add(now().text);
                    script.choices.add(node);
                    at++;
                    eat("{");
                    node.body = block(1, true, script.names.size() - 1);
                    eat("}");
                    break;
                case "default":
                    bad(now().kind != 'w' || now().text.length() > 8, 2);
                    bad(!script.names.contains(now().text), 5);
                    script.fallback = now().text;
                    at++;
                    eat(";");
                    break;
                default:
                    node.num[0] = num(0, 9999999);
                    node.rule = now().text;
                    bad(!node.rule.equals("rata") && !node.rule.equals("small"), 2);
                    at++;
                    if (node.rule.equals("small")) {
                        node.num[1] = num(0, 9999999);
                    }
                    eat(";");
            }
        }
    }

    static BigInteger big(long n) {
        return BigInteger.valueOf(n);
    }

    static BigInteger[] none(int n) {
        BigInteger[] out = new BigInteger[n];
        Arrays.fill(out, BigInteger.ZERO);
        return out;
    }

    static BigInteger[][] none(int m, int n) {
        BigInteger[][] out = new BigInteger[m][];
        for (int i = 0; i < m; i++) {
            out[i] = none(n);
        }
        return out;
    }

    /** What the second reading holds at the end of a day. */
    static class World {
        BigInteger[][] own = none(20, 20);
        long[][] worth = new long[20][20];
        BigInteger[] coin = none(20);
        long[] realized = new long[20];
        Map<Integer, Integer> done = new HashMap<>();
        Map<Integer, BigInteger[][]> kept = new HashMap<>();
        boolean over;
    }

    /** What a clause brings a top account: shares of a paper, pennies, or so much of its worth to a paper. */
    static class Step {
        String what;
        int paper;
        BigInteger amount;
        int row;
    }

    /** What one top account gets from a script. */
    static class Yield {
        final BigInteger total;
        final BigInteger[] t;
        String rule = "down";
        long price;
        final BigInteger[] takes = none(4);
        final List<Step> steps = new ArrayList<>();

        Yield(BigInteger total, BigInteger[] t) {
            this.total = total;
            this.t = t;
        }

        void go(List<Node> nodes, int row) {
            for (Node node : nodes) {
                one(node, row);
            }
        }

        void step(String what, int paper, BigInteger amount, int row) {
            Step step = new Step();
            step.what = what;
            step.paper = paper;
            step.amount = amount;
            step.row = row;
            steps.add(step);
        }

        BigInteger sum(String what, int paper) {
            BigInteger sum = BigInteger.ZERO;
            for (Step step : steps) {
                if (step.what.equals(what) && step.paper == paper) {
                    sum = sum.add(step.amount);
                }
            }
            return sum;
        }

        void one(Node node, int row) {
            BigInteger whole = row == NONE ? total : t[row];
            int r = row == NONE ? 3 : row;
            long n = node.num[2];
            BigInteger[] by = whole.multiply(big(node.num[0])).divideAndRemainder(big(Math.max(n, 1)));
            if (node.word.equals("give")) {
                long rest = by[1].longValueExact();
                boolean more = rule.equals("up") && rest > 0 || rule.equals("near") && rest * 2 >= n;
                step("give", node.num[1], more ? by[0].add(BigInteger.ONE) : by[0], r);
                if (rule.equals("coin")) {
                    step("coin", 0, big(price * rest / n), r);
                }
            } else if (node.word.equals("take")) {
                takes[r] = takes[r].add(by[0]).min(whole);
            } else if (node.word.equals("coin")) {
                step("coin", 0, by[0], r);
            } else if (node.word.equals("pay")) {
                step("coin", 0, by[0].negate(), r);
            } else if (node.word.equals("worth")) {
                step("worth", node.num[1], big(node.num[0]), r);
            } else if (node.word.equals("fraction")) {
                rule = node.rule;
                price = node.num[0];
            } else if (node.word.equals("when")) {
                int side = total.compareTo(big(node.num[0]));
                go((node.rule.equals("<") ? side < 0 : side > 0) ? node.body : node.other, row);
            }
        }

        void all(Script script) {
            for (Node node : script.nodes) {
                if (node.word.equals("choice")) {
                    int row = script.choices.indexOf(node);
                    if (t[row].signum() > 0) {
                        go(node.body, row);
                    }
                } else {
                    one(node, NONE);
                }
            }
        }
    }

    static class Oracle {
        int status;
        int asof = 40000;
        int latest;
        final List<int[]> accounts = new ArrayList<>();
        final List<Happening> issues = new ArrayList<>();
        final List<Happening> trades = new ArrayList<>();
        final List<Happening> events = new ArrayList<>();
        final List<Said> said = new ArrayList<>();
        final List<Opt> options = new ArrayList<>();
        final List<Opt> names = new ArrayList<>();
        final List<int[]> hints = new ArrayList<>();
        final int[] rates = new int[20];
        StringBuilder tape = new StringBuilder();
        int fault = NONE;
        int place = NONE;
        BigInteger up = BigInteger.ZERO;
        BigInteger low = BigInteger.ONE;
        List<Integer> because;
        int rivals;

        static boolean day(int d) {
            return d >= 0 && d <= 40000;
        }

        static boolean in(int n, int a, int b) {
            return a <= n && n <= b;
        }

        boolean acc(int a) {
            return in(a, 0, accounts.size() - 1);
        }

        boolean pap(int p) {
            return in(p, 0, 19);
        }

        /** The first whose answer is false gives the status. */
        boolean need(boolean there, boolean can, boolean room, boolean fresh) {
            status = !there ? 1 : !can ? 2 : !room ? 3 : !fresh ? 4 : 0;
            return status == 0;
        }

        long no(int s) {
            status = s;
            return NONE;
        }

        long account(int under, int lead, int delay) {
            if (!need(under == NONE || acc(under), in(lead, 0, 30) && in(delay, 0, 30), accounts.size() < 20, true)) {
                return NONE;
            }
            accounts.add(new int[] {under, lead, delay});
            return accounts.size() - 1;
        }

        long issue(int account, int paper, int day, int shares, int worth, int known) {
            if (!need(acc(account) && pap(paper), day(day) && in(shares, 1, 1000000) && in(worth, 0, 100000000) && day(known),
                    issues.size() < 40, known >= latest)) {
                return 0;
            }
            Happening h = new Happening();
            h.to = account;
            h.paper = paper;
            h.day = day;
            h.shares = shares;
            h.worth = worth;
            h.rank = 0;
            add(h, issues, known);
            return 1;
        }

        <T extends Fact> long add(T fact, List<T> list, int known) {
            fact.known = known;
            fact.number = list.size();
            list.add(fact);
            latest = known;
            return fact.number;
        }

        long trade(int from, int to, int paper, int shares, int dealt, int settled, int known) {
            if (!need(acc(from) && acc(to) && from != to && pap(paper),
                    in(shares, 1, 1000000) && day(dealt) && day(settled) && settled >= dealt && day(known),
                    trades.size() < 40, known >= latest)) {
                return NONE;
            }
            Happening h = new Happening();
            h.from = from;
            h.to = to;
            h.paper = paper;
            h.shares = shares;
            h.dealt = dealt;
            h.day = settled;
            h.rank = 1;
            return add(h, trades, known);
        }

        long feed(byte[] twenty) {
            if (tape.length() > 380) {
                return NONE;
            }
            for (byte b : twenty) {
                tape.append((char) (b & 255));
            }
            return tape.length();
        }

        long event(int paper, int n, int ex, int record, int last, int known) {
            boolean days = day(ex) && day(record) && day(last) && day(known);
            if (!need(pap(paper), in(n, 0, tape.length()) && days && in(record - ex, -10, 10) && last >= record,
                    events.size() < 16, known >= latest)) {
                return NONE;
            }
            String text = tape.substring(0, n);
            tape = new StringBuilder();
            Happening h = new Happening();
            try {
                h.script = new Parser(text).parse();
                fault = 0;
                place = NONE;
            } catch (Flaw flaw) {
                fault = flaw.kind;
                place = flaw.place;
                return no(6);
            }
            h.paper = paper;
            h.ex = ex;
            h.day = record;
            h.last = last;
            h.rank = 2;
            return add(h, events, known);
        }

        boolean ev(int e) {
            return in(e, 0, events.size() - 1);
        }

        boolean cho(int e, int c) {
            return ev(e) && in(c, 0, events.get(e).script.names.size() - 1);
        }

        long choices(int event) {
            if (!need(ev(event), true, true, true)) {
                return NONE;
            }
            return events.get(event).script.names.size();
        }

        long choose(int event, int account, int choice, int day, int known) {
            if (!need(cho(event, choice) && acc(account), day(day) && day(known), said.size() < 60, known >= latest)) {
                return NONE;
            }
            Said s = new Said();
            s.event = event;
            s.account = account;
            s.choice = choice;
            s.day = day;
            return add(s, said, known);
        }

        long strike(int what, int which, int known) {
            if (!in(what, 0, 2)) {
                no(2);
                return 0;
            }
            List<? extends Fact> list = what == 0 ? trades : what == 1 ? events : said;
            boolean there = in(which, 0, list.size() - 1);
            if (!need(there, day(known), true, known >= latest && there && list.get(which).struck == Integer.MAX_VALUE)) {
                return 0;
            }
            list.get(which).struck = known;
            latest = known;
            return 1;
        }

        // -- the running

        int topOf(int a) {
            return accounts.get(a)[0] == NONE ? a : topOf(accounts.get(a)[0]);
        }

        BigInteger sum(BigInteger[] own, int a) {
            BigInteger s = own[a];
            for (int b = 0; b < accounts.size(); b++) {
                if (accounts.get(b)[0] == a) {
                    s = s.add(sum(own, b));
                }
            }
            return s;
        }

        /** Largest remainders by sorting. */
        static BigInteger[] rata(BigInteger amount, BigInteger[] weights) {
            BigInteger all = BigInteger.ZERO;
            for (BigInteger w : weights) {
                all = all.add(w);
            }
            BigInteger[] out = none(weights.length);
            if (all.signum() == 0) {
                return out;
            }
            BigInteger[] rests = new BigInteger[weights.length];
            List<Integer> by = new ArrayList<>();
            BigInteger left = amount;
            for (int i = 0; i < weights.length; i++) {
                BigInteger[] qr = amount.multiply(weights[i]).divideAndRemainder(all);
                out[i] = qr[0];
                rests[i] = qr[1];
                left = left.subtract(out[i]);
                by.add(i);
            }
            by.sort(Comparator.comparing((Integer i) -> rests[i]).reversed());
            for (int i = 0; i < left.intValueExact(); i++) {
                out[by.get(i)] = out[by.get(i)].add(BigInteger.ONE);
            }
            return out;
        }

        void part(BigInteger amount, int a, BigInteger[] own, BigInteger[] into) {
            List<Integer> kids = new ArrayList<>();
            for (int b = 0; b < accounts.size(); b++) {
                if (accounts.get(b)[0] == a) {
                    kids.add(b);
                }
            }
            BigInteger[] weights = new BigInteger[kids.size() + 1];
            weights[0] = own[a];
            for (int i = 0; i < kids.size(); i++) {
                weights[i + 1] = sum(own, kids.get(i));
            }
            BigInteger[] parts = rata(amount, weights);
            into[a] = into[a].add(parts[0]);
            for (int i = 0; i < kids.size(); i++) {
                part(parts[i + 1], kids.get(i), own, into);
            }
        }

        int[] way(int account) {
            List<Integer> hands = new ArrayList<>();
            int hand = accounts.get(account)[0] == NONE ? account : accounts.get(account)[0];
            while (hand != NONE) {
                hands.add(hand);
                hand = accounts.get(hand)[0];
            }
            return hands.stream().mapToInt(i -> i).toArray();
        }

        boolean inTime(Said s) {
            int day = s.day;
            for (int hand : way(s.account)) {
                day += accounts.get(hand)[2];
            }
            return day <= events.get(s.event).last;
        }

        int pick(int event, int account) {
            Said best = null;
            for (Said s : said) {
                if (s.event == event && s.account == account && s.seen(asof) && inTime(s)
                        && (best == null || s.day >= best.day)) {
                    best = s;
                }
            }
            return best == null ? events.get(event).script.standard() : best.choice;
        }

        /** All up to a day, too much or not. */
        World world(int day) {
            World w = new World();
            List<Happening> list = new ArrayList<>();
            list.addAll(issues);
            list.addAll(trades);
            list.addAll(events);
            list.removeIf(h -> h.day > day || !h.seen(asof));
            list.sort(Comparator.<Happening>comparingInt(h -> h.day).thenComparingInt(h -> h.rank).thenComparingInt(h -> h.number));
            for (Happening h : list) {
                if (h.rank == 0) {
                    w.own[h.paper][h.to] = w.own[h.paper][h.to].add(big(h.shares));
                    w.worth[h.paper][h.to] += h.worth;
                } else if (h.rank == 1) {
                    settle(w, h);
                } else {
                    happen(w, h);
                }
            }
            return w;
        }

        void settle(World w, Happening h) {
            BigInteger has = w.own[h.paper][h.from];
            BigInteger shares = big(h.shares);
            boolean enough = has.compareTo(shares) >= 0;
            w.done.put(h.number, enough ? 1 : 0);
            if (enough) {
                long goes = big(w.worth[h.paper][h.from]).multiply(shares).divide(has).longValueExact();
                w.own[h.paper][h.from] = has.subtract(shares);
                w.own[h.paper][h.to] = w.own[h.paper][h.to].add(shares);
                w.worth[h.paper][h.from] -= goes;
                w.worth[h.paper][h.to] += goes;
            }
        }

        BigInteger[][] rows(World w, Happening h) {
            BigInteger[][] mine = none(4, 20);
            for (int a = 0; a < accounts.size(); a++) {
                BigInteger has = w.own[h.paper][a];
                mine[3][a] = has;
                int c = pick(h.number, a);
                if (c != NONE) {
                    mine[c][a] = has;
                }
            }
            BigInteger[][] out = {mine[0].clone(), mine[1].clone(), mine[2].clone(), mine[3].clone()};
            for (int c = 0; c < h.script.choices.size(); c++) {
                cut(h, c, mine[c], out);
            }
            return out;
        }

        void cut(Happening h, int c, BigInteger[] own, BigInteger[][] out) {
            Node most = null;
            for (Node node : h.script.choices.get(c).body) {
                if (node.word.equals("most")) {
                    most = node;
                }
            }
            BigInteger all = BigInteger.ZERO;
            for (BigInteger t : own) {
                all = all.add(t);
            }
            if (most == null || all.compareTo(big(most.num[0])) <= 0) {
                return;
            }
            BigInteger left = big(most.num[0]);
            BigInteger[] weights = none(accounts.size());
            BigInteger[] gets = none(accounts.size());
            for (int a = 0; a < accounts.size(); a++) {
                if (accounts.get(a)[0] != NONE) {
                    continue;
                }
                BigInteger t = sum(own, a);
                if (most.rule.equals("small") && t.compareTo(big(most.num[1])) <= 0 && t.compareTo(left) <= 0) {
                    gets[a] = t;
                    left = left.subtract(t);
                } else {
                    weights[a] = t;
                }
            }
            BigInteger[] more = rata(left, weights);
            BigInteger[] stay = none(20);
            for (int a = 0; a < accounts.size(); a++) {
                if (accounts.get(a)[0] == NONE) {
                    part(gets[a].add(more[a]), a, own, stay);
                }
            }
            int standard = h.script.standard();
            for (int a = 0; a < accounts.size(); a++) {
                BigInteger goes = own[a].subtract(stay[a]);
                out[c][a] = out[c][a].subtract(goes);
                if (standard != NONE && standard != c) {
                    out[standard][a] = out[standard][a].add(goes);
                }
            }
        }

        void happen(World w, Happening h) {
            BigInteger[][] mine = rows(w, h);
            w.kept.put(h.number, mine);
            int[] first = new int[20];
            Arrays.fill(first, NONE);
            BigInteger[] gone = none(20);
            BigInteger[][] come = none(20, 20);
            for (int top = 0; top < accounts.size(); top++) {
                if (accounts.get(top)[0] != NONE) {
                    continue;
                }
                BigInteger[] t = new BigInteger[4];
                for (int r = 0; r < 4; r++) {
                    t[r] = sum(mine[r], top);
                }
                Yield y = new Yield(t[3], t);
                y.all(h.script);
                for (Step step : y.steps) {
                    apply(w, h, step, top, mine, first, come);
                }
                for (int r = 0; r < 4; r++) {
                    // the takes are capped one by one in Yield, which comes to the same
                    part(y.takes[r], top, mine[r], gone);
                }
            }
            for (int a = 0; a < accounts.size(); a++) {
                for (int p = 0; p < 20; p++) {
                    w.own[p][a] = w.own[p][a].add(come[p][a]);
                }
                w.own[h.paper][a] = w.own[h.paper][a].subtract(gone[a]);
                if (w.own[h.paper][a].signum() == 0) {
                    if (first[a] == NONE) {
                        w.realized[a] += w.worth[h.paper][a];
                    } else {
                        w.worth[first[a]][a] += w.worth[h.paper][a];
                    }
                    w.worth[h.paper][a] = 0;
                }
            }
            for (int p = 0; p < 20; p++) {
                for (int a = 0; a < accounts.size(); a++) {
                    w.over |= sum(w.own[p], a).compareTo(big(1000000000L)) > 0;
                }
            }
        }

        void apply(World w, Happening h, Step step, int top, BigInteger[][] mine, int[] first, BigInteger[][] come) {
            BigInteger[] parts = none(20);
            if (!step.what.equals("worth")) {
                part(step.amount.abs(), top, mine[step.row], parts);
            }
            for (int a = 0; a < accounts.size(); a++) {
                if (topOf(a) != top) {
                    continue;
                }
                if (step.what.equals("give")) {
                    come[step.paper][a] = come[step.paper][a].add(parts[a]);
                    if (parts[a].signum() > 0 && first[a] == NONE) {
                        first[a] = step.paper;
                    }
                } else if (step.what.equals("coin")) {
                    w.coin[a] = step.amount.signum() < 0 ? w.coin[a].subtract(parts[a]) : w.coin[a].add(parts[a]);
                } else if (step.row == 3 || mine[step.row][a].signum() > 0) {
                    long goes = w.worth[h.paper][a] * step.amount.longValueExact() / 1000;
                    w.worth[h.paper][a] -= goes;
                    w.worth[step.paper][a] += goes;
                }
            }
        }

        interface Ask {
            long of(World w);
        }

        long ask(boolean there, boolean can, int day, Ask ask) {
            if (!need(there, can, true, true)) {
                return NONE;
            }
            World w = world(day);
            return w.over ? no(8) : ask.of(w);
        }

        long own(int a, int p, int day) {
            return ask(acc(a) && pap(p), day(day), day, w -> w.own[p][a].longValueExact());
        }

        long total(int a, int p, int day) {
            return ask(acc(a) && pap(p), day(day), day, w -> sum(w.own[p], a).longValueExact());
        }

        long worth(int a, int p, int day) {
            return ask(acc(a) && pap(p), day(day), day, w -> w.worth[p][a]);
        }

        long coin(int a, int what, int day) {
            return ask(acc(a), in(what, 0, 1) && day(day), day, w -> what == 0 ? w.coin[a].longValueExact() : w.realized[a]);
        }

        long chosen(int e, int a) {
            if (!need(ev(e) && acc(a), true, true, true)) {
                return NONE;
            }
            int c = pick(e, a);
            if (c == NONE) {
                return no(5);
            }
            return events.get(e).seen(asof) ? c : no(7);
        }

        long stays(int e, int a, int c) {
            if (!need(cho(e, c) && acc(a), true, true, true)) {
                return NONE;
            }
            Happening h = events.get(e);
            if (!h.seen(asof)) {
                return no(7);
            }
            return ask(true, true, h.day, w -> w.kept.get(e)[c][a].longValueExact());
        }

        long bears(int c) {
            if (!need(in(c, 0, said.size() - 1), true, true, true)) {
                return NONE;
            }
            Said s = said.get(c);
            int leads = 0;
            for (int hand : way(s.account)) {
                leads += accounts.get(hand)[1];
            }
            if (inTime(s) || s.day > events.get(s.event).last - leads) {
                return no(5);
            }
            for (int hand : way(s.account)) {
                if (accounts.get(hand)[2] > accounts.get(hand)[1]) {
                    return s.seen(asof) && events.get(s.event).seen(asof) ? hand : no(7);
                }
            }
            throw new IllegalStateException("nobody bears it");
        }

        long done(int t) {
            if (!need(in(t, 0, trades.size() - 1), true, true, true)) {
                return NONE;
            }
            Happening h = trades.get(t);
            if (!h.seen(asof)) {
                return no(7);
            }
            return ask(true, true, h.day, w -> w.done.get(t));
        }

        long due(int t, int e, int p) {
            if (!need(in(t, 0, trades.size() - 1) && ev(e) && (p == NONE || pap(p)), true, true, true)) {
                return NONE;
            }
            Happening deal = trades.get(t);
            Happening h = events.get(e);
            if (!deal.seen(asof) || !h.seen(asof) || deal.paper != h.paper || !h.script.names.isEmpty()) {
                return no(7);
            }
            World w = world(deal.day);
            if (w.done.get(t) == 0) {
                return no(7);
            }
            if (w.over) {
                return no(8);
            }
            Yield y = new Yield(big(deal.shares), none(4));
            y.all(h.script);
            long amount = (p == NONE ? y.sum("coin", 0) : y.sum("give", p)).longValueExact();
            if (deal.dealt < h.ex && deal.day > h.day) {
                return amount;
            }
            return deal.dealt >= h.ex && deal.day <= h.day ? -amount : 0;
        }

        // -- options

        long option(int paper, int day, int strike, int number, int known) {
            if (!need(pap(paper), day(day) && in(strike, 1, 1000000) && in(number, 1, 10000) && day(known),
                    options.size() < 10, known >= latest)) {
                return NONE;
            }
            Opt o = new Opt();
            o.paper = paper;
            o.day = day;
            o.strike = strike;
            o.count = number;
            return add(o, options, known);
        }

        static final BigInteger PART = BigInteger.TEN.pow(12);

        static BigInteger[] low(BigInteger a, BigInteger b) {
            BigInteger g = a.gcd(b);
            return new BigInteger[] {a.divide(g), b.divide(g)};
        }

        static boolean much(BigInteger[] f) {
            return f[0].abs().compareTo(PART) > 0 || f[1].compareTo(PART) > 0;
        }

        int on;
        BigInteger[] strikeAt;
        BigInteger[] numberAt;

        int walk(Opt o, int day) {
            on = o.paper;
            boolean much = false;
            strikeAt = new BigInteger[] {big(o.strike), BigInteger.ONE};
            numberAt = new BigInteger[] {big(o.count), BigInteger.ONE};
            List<Happening> list = new ArrayList<>(events);
            list.sort(Comparator.<Happening>comparingInt(h -> h.day).thenComparingInt(h -> h.number));
            for (Happening h : list) {
                boolean plain = h.script.names.isEmpty() && h.script.nodes.stream().noneMatch(n -> n.word.equals("when"));
                if (h.paper != on || h.day < o.day || h.day > day || !plain || !h.seen(asof)) {
                    continue;
                }
                int s = turn(h);
                if (s == 5) {
                    return s;
                }
                much |= s == 8;
            }
            if (!o.seen(asof)) {
                return 7;
            }
            return much ? 8 : 0;
        }

        int turn(Happening h) {
            Node give = null;
            boolean all = false;
            BigInteger[] f = {BigInteger.ONE, BigInteger.ONE};
            boolean much = false;
            boolean touched = false;
            for (Node n : h.script.nodes) {
                boolean its = n.word.equals("take") || n.word.equals("give") && n.num[1] == h.paper;
                if (n.word.equals("give") && give == null) {
                    give = n;
                }
                all |= n.word.equals("take") && n.num[0] == n.num[2];
                if (its) {
                    touched = true;
                    BigInteger m = big(n.word.equals("take") ? -n.num[0] : n.num[0]);
                    f = low(f[0].multiply(big(n.num[2])).add(m.multiply(f[1])), f[1].multiply(big(n.num[2])));
                    much |= much(f);
                }
            }
            if (all && give != null) {
                on = give.num[1];
                f = low(big(give.num[0]), big(give.num[2]));
                much = false;
            } else if (!touched) {
                return 0;
            }
            if (f[0].signum() <= 0) {
                return 5;
            }
            numberAt = low(numberAt[0].multiply(f[0]), numberAt[1].multiply(f[1]));
            strikeAt = low(strikeAt[0].multiply(f[1]), strikeAt[1].multiply(f[0]));
            return much || much(numberAt) || much(strikeAt) ? 8 : 0;
        }

        boolean opt(int o) {
            return in(o, 0, options.size() - 1);
        }

        long optionOn(int o, int day) {
            if (!need(opt(o), day(day) && opt(o) && day >= options.get(o).day, true, true)) {
                return NONE;
            }
            int s = walk(options.get(o), day);
            return s != 0 ? no(s) : on;
        }

        long term(int o, int what, int day) {
            if (!need(opt(o), in(what, 0, 1) && day(day) && opt(o) && day >= options.get(o).day, true, true)) {
                return 0;
            }
            int s = walk(options.get(o), day);
            if (s != 0) {
                no(s);
                return 0;
            }
            BigInteger[] f = what == 0 ? strikeAt : numberAt;
            up = f[0];
            low = f[1];
            return 1;
        }

        // -- rates

        long rate(int p, int pennies) {
            if (!need(pap(p), in(pennies, 0, 100000), true, true)) {
                return 0;
            }
            rates[p] = pennies;
            return 1;
        }

        long value(int e, int c, int shares) {
            Happening h = events.get(e);
            BigInteger[] t = none(4);
            if (c != NONE) {
                t[c] = big(shares);
            }
            Yield y = new Yield(big(shares), t);
            y.all(h.script);
            BigInteger sum = y.sum("coin", 0);
            for (int p = 0; p < 20; p++) {
                sum = sum.add(y.sum("give", p).multiply(big(rates[p])));
            }
            for (BigInteger goes : y.takes) {
                sum = sum.subtract(goes.multiply(big(rates[h.paper])));
            }
            return sum.longValueExact();
        }

        long brings(int e, int c, int shares) {
            if (!need(ev(e) && (c == NONE || cho(e, c)), in(shares, 1, 1000000), true, true)) {
                return NONE;
            }
            return value(e, c, shares);
        }

        long best(int e, int shares) {
            if (!need(ev(e), in(shares, 1, 1000000), true, true)) {
                return NONE;
            }
            int best = NONE;
            for (int c = 0; c < events.get(e).script.names.size(); c++) {
                if (best == NONE || value(e, c, shares) > value(e, best, shares)) {
                    best = c;
                }
            }
            return best == NONE ? no(5) : best;
        }

        // -- names

        long name(int p, int name, int day, int known) {
            if (!need(pap(p), in(name, 0, 9999) && day(day) && day(known), names.size() < 60, known >= latest)) {
                return 0;
            }
            Opt o = new Opt();
            o.paper = p;
            o.day = day;
            o.count = name;
            add(o, names, known);
            return 1;
        }

        int callName(int p, int day) {
            Opt best = null;
            for (Opt o : names) {
                if (o.paper == p && o.day <= day && o.seen(asof) && (best == null || best.day <= o.day)) {
                    best = o;
                }
            }
            return best == null ? NONE : best.count;
        }

        long called(int p, int day) {
            if (!need(pap(p), day(day), true, true)) {
                return NONE;
            }
            return callName(p, day) == NONE ? no(5) : callName(p, day);
        }

        long find(int name, int day, int k) {
            if (!need(true, in(name, 0, 9999) && day(day), true, true)) {
                return NONE;
            }
            List<Integer> so = new ArrayList<>();
            for (int p = 0; p < 20; p++) {
                if (callName(p, day) == name) {
                    so.add(p);
                }
            }
            return in(k, 0, so.size() - 1) ? so.get(k) : no(5);
        }

        long hint(int from, int to, int day, int m, int n, boolean sure) {
            if (!need(pap(from) && pap(to), day(day) && in(m, 1, 1000) && in(n, 1, 1000), hints.size() < 12, true)) {
                return NONE;
            }
            hints.add(new int[] {from, to, day, m, n, sure ? 1 : 0});
            return hints.size() - 1;
        }

        boolean explains(int set, int paper, long shares, int day, int now, int has, int later) {
            List<Integer> list = new ArrayList<>();
            for (int i = 0; i < hints.size(); i++) {
                list.add(i);
            }
            list.sort(Comparator.comparingInt(i -> hints.get(i)[2]));
            for (int i : list) {
                int[] h = hints.get(i);
                boolean picked = (set >> i & 1) == 1;
                if (h[2] <= day || h[2] > later) {
                    continue;
                }
                if (h[5] == 0 && !picked) {
                    continue;
                }
                if (h[0] != paper) {
                    if (picked) {
                        return false;
                    }
                    continue;
                }
                paper = h[1];
                shares = shares * h[3] / h[4];
                if (shares > 1000000000000L) {
                    return false;
                }
            }
            return paper == now && shares == has;
        }

        long explain(int paper, int shares, int day, int now, int has, int later) {
            if (!need(pap(paper) && pap(now), in(shares, 1, 1000000) && day(day) && day(later) && later > day, true, true)) {
                return NONE;
            }
            List<List<Integer>> best = new ArrayList<>();
            for (int set = 0; set < 1 << hints.size(); set++) {
                List<Integer> list = new ArrayList<>();
                boolean free = true;
                for (int i = 0; i < hints.size(); i++) {
                    if ((set >> i & 1) == 1) {
                        list.add(i);
                        free &= hints.get(i)[5] == 0;
                    }
                }
                if (!free || !best.isEmpty() && list.size() > best.get(0).size()
                        || !explains(set, paper, shares, day, now, has, later)) {
                    continue;
                }
                if (!best.isEmpty() && list.size() < best.get(0).size()) {
                    best.clear();
                }
                best.add(list);
            }
            if (best.isEmpty()) {
                return no(5);
            }
            // Sets of one size: the one with the least hint that only one has is the first as a row of numbers.
            best.sort((a, b) -> {
                for (int i = 0; i < a.size(); i++) {
                    if (!a.get(i).equals(b.get(i))) {
                        return a.get(i) - b.get(i);
                    }
                }
                return 0;
            });
            rivals = best.size();
            because = best.get(0);
            return because.size();
        }

        long rivals() {
            status = 0;
            return because == null ? no(5) : rivals;
        }

        long because(int k) {
            status = 0;
            return because == null || !in(k, 0, because.size() - 1) ? no(5) : because.get(k);
        }
    }

    // ---------------------------------------------------------------- the random runs

    static class Maker {
        final Random r;
        final int papers;
        final boolean great;

        Maker(Random r) {
            this.r = r;
            this.papers = 1 + r.nextInt(4);
            this.great = r.nextInt(6) == 0;
        }

        boolean odds(int of) {
            return r.nextInt(of) == 0;
        }

        int ratio() {
            return odds(12) ? pick(0, 1, 999, 1000, 1001) : odds(6) ? 1 + r.nextInt(1000) : 1 + r.nextInt(great ? 40 : 7);
        }

        int pick(int... of) {
            return of[r.nextInt(of.length)];
        }

        int paper() {
            return odds(60) ? pick(-2, 20, 19) : r.nextInt(papers);
        }

        String gap() {
            return odds(10) ? odds(2) ? "\n" : "  " : " ";
        }

        void ratioClause(StringBuilder b, String word, String behind) {
            int m = ratio();
            int n = ratio();
            if (word.equals("take") && m > n && !odds(8)) {
                int x = m;
                m = n;
                n = x;
            }
            if (word.equals("take") && odds(4)) {
                m = n;
            }
            if (word.equals("coin") || word.equals("pay")) {
                m = odds(8) ? r.nextInt(10000000) : r.nextInt(60);
            }
            b.append(word).append(gap()).append(m).append(behind).append(" for ").append(n).append(odds(5) ? " ;" : ";").append(gap());
        }

        void clause(StringBuilder b, int deep, boolean right, boolean takes) {
            switch (r.nextInt(right ? 10 : 9)) {
                case 0:
                case 1:
                    ratioClause(b, "give", " of " + Math.abs(paper()));
                    break;
                case 2:
                    ratioClause(b, odds(30) || takes ? "take" : "give", takes ? "" : " of " + Math.abs(paper()));
                    break;
                case 3:
                    ratioClause(b, "coin", "");
                    break;
                case 4:
                    ratioClause(b, "pay", "");
                    break;
                case 5:
                    b.append("worth ").append(odds(20) ? 1001 : r.nextInt(1001)).append(" to ").append(Math.abs(paper())).append(";").append(gap());
                    break;
                case 6:
                    b.append("fraction ");
                    b.append(odds(4) ? "down" : odds(3) ? "up" : odds(2) ? "near" : "coin " + r.nextInt(2000)).append(";").append(gap());
                    break;
                case 7:
                case 8:
                    if (deep < 2 || odds(6)) {
                        b.append("when has ").append(odds(2) ? "<" : ">").append(gap()).append(r.nextInt(great ? 4000000 : 600)).append(" {");
                        clauses(b, deep + 1, false, takes, 3);
                        b.append("}").append(gap());
                        if (odds(2)) {
                            b.append("else {");
                            clauses(b, deep + 1, false, takes, 3);
                            b.append("}").append(gap());
                        }
                    }
                    break;
                default:
                    b.append("most ").append(odds(10) ? 0 : r.nextInt(500)).append(odds(2) ? " rata;" : " small " + r.nextInt(200) + ";");
            }
        }

        void clauses(StringBuilder b, int deep, boolean right, boolean takes, int most) {
            int n = r.nextInt(most + 1);
            for (int i = 0; i < n; i++) {
                clause(b, deep, right, takes);
            }
        }

        String text() {
            StringBuilder b = new StringBuilder();
            int choices = odds(2) ? 0 : 1 + r.nextInt(odds(15) ? 4 : 3);
            boolean takesIn = odds(2) && choices > 0;
            clauses(b, 0, false, !takesIn, choices == 0 ? odds(8) ? 25 : 5 : 2);
            String[] names = {"a", "bb", "give", odds(2) ? "a" : "cash"};
            for (int c = 0; c < choices; c++) {
                b.append("choice ").append(odds(40) ? "ninechars" : names[c]).append(" {");
                clauses(b, 1, true, takesIn, 3);
                b.append("}").append(gap());
                if (odds(3)) {
                    b.append("default ").append(names[r.nextInt(3)]).append(";");
                }
                if (odds(5)) {
                    clauses(b, 0, false, !takesIn, 2);
                }
            }
            if (odds(12) && b.length() > 0) {
                spoil(b);
            }
            return b.toString();
        }

        void spoil(StringBuilder b) {
            int at = r.nextInt(b.length());
            String[] bits = {"0", "00000000", "}", "{", ";", "x", "A", " ", "most 5 rata;", "default a;", "take 1 for 1;", "choice a {", "else"};
            if (odds(2)) {
                b.insert(at, bits[r.nextInt(bits.length)]);
            } else {
                b.delete(at, Math.min(b.length(), at + 1 + r.nextInt(8)));
            }
        }

        int day() {
            return odds(60) ? pick(-1, 40000, 40001) : r.nextInt(50);
        }
    }

    static int wrong;

    static boolean same(int run, String call, long got, long want) {
        if (got != want) {
            wrong++;
            System.out.println("run " + run + ": " + call + " answered " + got + ", due is " + want);
        }
        return got == want;
    }

    static final class Play {
        final Maker k;
        final Random r;
        final ShareLife x = new ShareLife();
        final Oracle o = new Oracle();
        final int run;
        final int[] count = new int[9];
        int known;

        Play(int run) {
            this.run = run;
            r = new Random(run * 7919L + 17);
            k = new Maker(r);
        }

        int any(int size) {
            return k.odds(60) || size == 0 ? k.pick(-1, size, -2, Integer.MAX_VALUE, Integer.MIN_VALUE) : r.nextInt(size);
        }

        int known() {
            if (k.odds(40)) {
                return k.pick(-1, 40001, known - 1);
            }
            known += k.odds(4) ? r.nextInt(3) : 0;
            return known;
        }

        boolean check(String call, long got, long want) {
            boolean ok = same(run, call, got, want) & same(run, "status behind " + call, x.status(), o.status);
            count[o.status]++;
            return ok;
        }

        boolean feedText(String text) {
            byte[] bytes = new byte[(text.length() + 19) / 20 * 20];
            Arrays.fill(bytes, (byte) 32);
            for (int i = 0; i < text.length(); i++) {
                bytes[i] = (byte) text.charAt(i);
            }
            for (int i = 0; i < bytes.length; i += 20) {
                int[] w = new int[5];
                for (int j = 0; j < 20; j++) {
                    w[j / 4] = w[j / 4] << 8 | bytes[i + j] & 255;
                }
                if (!same(run, "feed", x.feed(w[0], w[1], w[2], w[3], w[4]), o.feed(Arrays.copyOfRange(bytes, i, i + 20)))) {
                    return false;
                }
            }
            return true;
        }

        boolean anEvent() {
            String text = k.text();
            if (text.length() > 400) {
                text = text.substring(0, 400);
            }
            if (!feedText(text)) {
                return false;
            }
            int p = k.paper();
            int n = k.odds(40) ? r.nextInt(401) : text.length();
            int ex = k.day();
            int rec = ex + (k.odds(30) ? k.pick(-11, -10, 10, 11) : r.nextInt(4) - 1);
            int last = rec + (k.odds(30) ? -1 : r.nextInt(12));
            int kn = known();
            String call = "event(" + p + ", " + n + ", " + ex + ", " + rec + ", " + last + ", " + kn + ") of " + text;
            boolean ok = check(call, x.event(p, n, ex, rec, last, kn), o.event(p, n, ex, rec, last, kn));
            ok &= same(run, "fault(0) behind " + call, x.fault(0), o.fault);
            ok &= same(run, "fault(1) behind " + call, x.fault(1), o.place);
            return ok;
        }

        boolean tell() {
            int a = any(o.accounts.size());
            int b = any(o.accounts.size());
            int p = k.paper();
            int d = k.day();
            int kn = known();
            int e = any(o.events.size());
            switch (r.nextInt(15)) {
                case 0: {
                    int lead = k.odds(40) ? k.pick(-1, 30, 31) : r.nextInt(5);
                    int delay = k.odds(40) ? k.pick(-1, 30, 31) : r.nextInt(5);
                    int under = k.odds(3) ? NONE : a;
                    return check("account(" + under + "..)", x.account(under, lead, delay), o.account(under, lead, delay));
                }
                case 1:
                case 2: {
                    int shares = k.odds(30) ? k.pick(0, 1000001, 1000000) : 1 + r.nextInt(k.great ? 1000000 : 300);
                    int worth = k.odds(30) ? k.pick(-1, 100000001, 100000000) : r.nextInt(5000);
                    int day = k.odds(2) ? d % 8 : d;
                    return check("issue", x.issue(a, p, day, shares, worth, kn) ? 1 : 0, o.issue(a, p, day, shares, worth, kn));
                }
                case 3:
                case 4: {
                    int shares = k.odds(30) ? k.pick(0, 1000001) : 1 + r.nextInt(k.great ? 100000 : 60);
                    int settled = d + (k.odds(40) ? -1 : r.nextInt(6));
                    return check("trade", x.trade(a, b, p, shares, d, settled, kn), o.trade(a, b, p, shares, d, settled, kn));
                }
                case 5:
                case 6:
                    return anEvent();
                case 7:
                case 8:
                case 9: {
                    int c = any(e >= 0 && e < o.events.size() ? o.events.get(e).script.names.size() : 2);
                    int day = e >= 0 && e < o.events.size() ? o.events.get(e).last - r.nextInt(12) : d;
                    return check("choose(" + e + ", " + a + ", " + c + ", " + day + ")", x.choose(e, a, c, day, kn), o.choose(e, a, c, day, kn));
                }
                case 10: {
                    int what = k.odds(30) ? k.pick(-1, 3) : r.nextInt(3);
                    int which = any(what == 0 ? o.trades.size() : what == 1 ? o.events.size() : o.said.size());
                    if (!k.odds(3)) {
                        return true;
                    }
                    return check("strike", x.strike(what, which, kn) ? 1 : 0, o.strike(what, which, kn));
                }
                case 11: {
                    int strike = k.odds(30) ? k.pick(0, 1000001) : 1 + r.nextInt(k.odds(2) ? 1000000 : 1000);
                    int number = k.odds(30) ? k.pick(0, 10001) : 1 + r.nextInt(10000);
                    return check("option", x.option(p, d, strike, number, kn), o.option(p, d, strike, number, kn));
                }
                case 12: {
                    int name = k.odds(30) ? k.pick(-1, 10000, 9999) : r.nextInt(4);
                    return check("name", x.name(p, name, d, kn) ? 1 : 0, o.name(p, name, d, kn));
                }
                case 13: {
                    int to = k.paper();
                    int m = k.ratio();
                    int n = k.ratio();
                    boolean sure = k.odds(4);
                    return check("hint", x.hint(p, to, d, m, n, sure), o.hint(p, to, d, m, n, sure));
                }
                default: {
                    int pennies = k.odds(30) ? k.pick(-1, 100001, 100000) : r.nextInt(50);
                    return check("rate", x.rate(p, pennies) ? 1 : 0, o.rate(p, pennies));
                }
            }
        }

        boolean ask() {
            int a = any(o.accounts.size());
            int p = k.paper();
            int d = k.day();
            int e = any(o.events.size());
            int t = any(o.trades.size());
            int n = o.options.size();
            int i = any(n);
            switch (r.nextInt(20)) {
                case 0:
                case 1:
                    return check("own(" + a + ", " + p + ", " + d + ")", x.own(a, p, d), o.own(a, p, d));
                case 2:
                    return check("total", x.total(a, p, d), o.total(a, p, d));
                case 3:
                case 4:
                    return check("worth", x.worth(a, p, d), o.worth(a, p, d));
                case 5:
                case 6: {
                    int what = k.odds(30) ? k.pick(-1, 2) : r.nextInt(2);
                    return check("coin", x.coin(a, what, d), o.coin(a, what, d));
                }
                case 7:
                    return check("chosen(" + e + ", " + a + ")", x.chosen(e, a), o.chosen(e, a));
                case 8: {
                    int c = r.nextInt(3);
                    return check("stays(" + e + ", " + a + ", " + c + ")", x.stays(e, a, c), o.stays(e, a, c));
                }
                case 9: {
                    int c = any(o.said.size());
                    return check("bears", x.bears(c), o.bears(c));
                }
                case 10:
                    return check("done", x.done(t), o.done(t));
                case 11:
                case 12: {
                    int q = k.odds(3) ? NONE : p;
                    return check("due(" + t + ", " + e + ", " + q + ")", x.due(t, e, q), o.due(t, e, q));
                }
                case 13:
                    return check("optionOn", x.optionOn(i, d), o.optionOn(i, d));
                case 14: {
                    int what = k.odds(30) ? k.pick(-1, 2) : r.nextInt(2);
                    return check("term(" + i + ", " + what + ", " + d + ")", x.term(i, what, d) ? 1 : 0, o.term(i, what, d))
                            & same(run, "upper", x.upper(), o.up.longValueExact()) & same(run, "lower", x.lower(), o.low.longValueExact());
                }
                case 15: {
                    int c = r.nextInt(4) - 1;
                    int shares = k.odds(30) ? k.pick(0, 1000001) : 1 + r.nextInt(k.odds(3) ? 1000000 : 200);
                    return check("brings", x.brings(e, c, shares), o.brings(e, c, shares))
                            & check("best", x.best(e, shares), o.best(e, shares));
                }
                case 16: {
                    int name = k.odds(30) ? k.pick(-1, 10000) : r.nextInt(4);
                    int j = r.nextInt(4) - 1;
                    return check("called", x.called(p, d), o.called(p, d)) & check("find", x.find(name, d, j), o.find(name, d, j));
                }
                case 17:
                    return asked();
                case 18:
                    return check("choices", x.choices(e), o.choices(e));
                default: {
                    int day = k.odds(10) ? k.pick(-1, 40001) : k.odds(2) ? 40000 : Math.max(0, known - r.nextInt(6));
                    boolean fine = Oracle.day(day);
                    o.status = fine ? 0 : 2;
                    if (fine) {
                        o.asof = day;
                    }
                    return check("asof(" + day + ")", x.asof(day) ? 1 : 0, fine ? 1 : 0);
                }
            }
        }

        boolean asked() {
            int p = k.paper();
            int q = k.paper();
            int d = r.nextInt(20);
            int later = k.odds(20) ? k.day() : d + 1 + r.nextInt(40);
            int shares = k.odds(30) ? k.pick(0, 1000001) : 1 + r.nextInt(k.great ? 1000000 : 30);
            int has = k.odds(3) ? shares : r.nextInt(30);
            if (k.odds(2) && shares >= 1 && Oracle.day(later)) {
                has = reach(p, shares, d, later);
                q = reachedPaper;
            }
            boolean ok = check("explain(" + p + ", " + shares + ", " + d + ", " + q + ", " + has + ", " + later + ")",
                    x.explain(p, shares, d, q, has, later), o.explain(p, shares, d, q, has, later));
            ok &= check("rivals", x.rivals(), o.rivals());
            int j = r.nextInt(4) - 1;
            return ok & check("because", x.because(j), o.because(j));
        }

        int reachedPaper;

        /** Where some walk through the hints comes to, so that there is often an explanation. */
        int reach(int paper, long shares, int day, int later) {
            List<int[]> list = new ArrayList<>(o.hints);
            list.sort(Comparator.comparingInt(h -> h[2]));
            for (int[] h : list) {
                if (h[2] > day && h[2] <= later && h[0] == paper && (h[5] == 1 || k.odds(2))) {
                    paper = h[1];
                    shares = Math.min(shares * h[3] / h[4], 1000000000000L);
                }
            }
            reachedPaper = paper;
            return (int) Math.min(shares, Integer.MAX_VALUE);
        }
    }

    /**
     * Runs past too much, where a trade that fails is still told from one that is done. In calm ones another paper is too
     * much, so that accounts have few shares; trades are for what the account has, or for one more.
     */
    static final class Flooding {
        final Play p;
        final Random r;
        final boolean calm;

        Flooding(int run) {
            p = new Play(run);
            r = p.r;
            calm = run % 3 > 0;
        }

        int of(int... some) {
            return some[r.nextInt(some.length)];
        }

        String grow() {
            int m = calm ? 1 + r.nextInt(4) : of(1, 7, 999, 1000, 1 + r.nextInt(1000));
            int n = calm ? 1 + r.nextInt(4) : of(1, 1, 3, 1 + r.nextInt(1000));
            return "give " + m + " of " + of(0, 0, 0, 1) + " for " + n + ";";
        }

        String shrink() {
            int n = calm ? 1 + r.nextInt(6) : of(1000, 1000, 2, 1 + r.nextInt(1000));
            return "take " + (n == 1 ? 1 : n - 1 - r.nextInt(of(1, 1, n - 1))) + " for " + n + ";";
        }

        String plain(boolean takes) {
            switch (r.nextInt(6)) {
                case 0:
                    return "fraction " + (r.nextBoolean() ? "up" : "near") + ";" + grow();
                case 1:
                case 2:
                    return takes ? shrink() : grow();
                case 3:
                    return "when has " + (r.nextBoolean() ? "<" : ">") + of(9999999, 1000, 40, 1) + "{" + grow() + "}else{"
                            + (takes ? shrink() : grow()) + "}";
                default:
                    return grow();
            }
        }

        String text() {
            StringBuilder b = new StringBuilder();
            boolean inside = r.nextInt(3) > 0;
            for (int i = r.nextInt(inside ? 2 : 3); i > 0; i--) {
                b.append(plain(!inside));
            }
            for (int c = 0; c < 3 && inside; c++) {
                int most = calm ? of(0, 5, 30, r.nextInt(200)) : of(0, 50, 9999999, r.nextInt(10000000));
                b.append("choice ").append((char) ('a' + c)).append('{');
                if (r.nextInt(4) > 0) {
                    b.append("most ").append(most).append(r.nextBoolean() ? " rata;" : " small " + of(0, 9, 20, 5000) + ";");
                }
                b.append(plain(true)).append('}');
                if (c == 1 && r.nextBoolean()) {
                    b.append("default ").append((char) ('a' + r.nextInt(2))).append(';');
                }
            }
            return b.toString();
        }

        void event(int paper, int day, String text) {
            p.feedText(text);
            p.check("event of " + text, p.x.event(paper, text.length(), day, day, day, 0), p.o.event(paper, text.length(), day, day, day, 0));
        }

        void issue(int account, int paper, int day, int shares) {
            p.check("issue", p.x.issue(account, paper, day, shares, 0, 0) ? 1 : 0, p.o.issue(account, paper, day, shares, 0, 0));
        }

        void tell() {
            for (int i = 0; i < 7; i++) {
                int under = i == 0 || r.nextInt(4) == 0 ? NONE : r.nextInt(i);
                p.check("account", p.x.account(under, 0, 0), p.o.account(under, 0, 0));
                issue(i, 0, 1, calm ? 1 + r.nextInt(60) : of(1, 3, 20, 1000000, 1 + r.nextInt(1000000)));
            }
            event(0, 5, "give 1 of 0 for 2;");
            issue(0, 2, 1, 1000000);
            event(2, calm ? 6 : 16, "give 1000 of 2 for 1;");
            for (int i = 2; i < 12; i++) {
                event(0, 10 + i, text());
                for (int a = 0; a < 6; a++) {
                    int c = r.nextInt(4);
                    p.check("choose", p.x.choose(i, a, c, 5, 0), p.o.choose(i, a, c, 5, 0));
                }
            }
        }

        void all() {
            tell();
            for (int t = 0; t < 40; t++) {
                int a = r.nextInt(7);
                int b = (a + 1 + r.nextInt(6)) % 7;
                int day = 11 + t / 3;
                int q = of(0, 0, 0, 1);
                BigInteger has = p.o.world(day - 1).own[q][a].add(big(r.nextInt(2)));
                int n = has.min(big(of(1000000, 1000000, 10))).max(BigInteger.ONE).intValueExact();
                p.check("trade", p.x.trade(a, b, q, n, 1, day, 0), p.o.trade(a, b, q, n, 1, day, 0));
                if (t % 8 == 0) {
                    issue(a, q, day, n);
                }
                p.check("due of trade " + t, p.x.due(t, 0, NONE), p.o.due(t, 0, NONE));
            }
        }
    }

    public static void main(String[] args) {
        int runs = args.length > 0 && args[0].matches("\\d+") ? Integer.parseInt(args[0]) : 1500;
        long[] seen = new long[9];
        for (int run = 1; run <= runs && wrong < 20; run++) {
            Play play = new Play(run);
            boolean ok = true;
            int calls = 60 + play.r.nextInt(300);
            int busy = 1 + play.r.nextInt(4);
            for (int i = 0; i < 3; i++) {
                int under = i == 0 || play.k.odds(2) ? NONE : play.r.nextInt(i);
                int lead = play.r.nextInt(5);
                int delay = play.r.nextInt(5);
                ok &= play.check("account", play.x.account(under, lead, delay), play.o.account(under, lead, delay));
            }
            for (int i = 0; i < calls && ok; i++) {
                boolean tells = i < calls / 3 || play.r.nextInt(busy + 1) == 0;
                ok = tells ? play.tell() : play.ask();
            }
            for (int i = 0; i < seen.length; i++) {
                seen[i] += play.count[i];
            }
        }
        long[] floods = new long[9];
        for (int run = 1; run <= runs / 10 && wrong < 20; run++) {
            Flooding flooding = new Flooding(run);
            flooding.all();
            for (int i = 0; i < seen.length; i++) {
                floods[i] += flooding.p.count[i];
            }
        }
        System.out.println("statuses met: " + Arrays.toString(seen) + ", past too much: " + Arrays.toString(floods));
        for (int i = 0; i < seen.length; i++) {
            same(0, "a run with status " + i, Math.min(seen[i], 1), 1);
        }
        System.out.println(wrong == 0 ? "all answers are as due" : wrong + " answers are not as due");
        if (wrong != 0) {
            System.exit(1);
        }
    }
}
