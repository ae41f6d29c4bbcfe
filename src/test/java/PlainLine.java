import java.math.BigInteger;
import java.util.ArrayList;
import java.util.Arrays;
import java.util.HashMap;
import java.util.HashSet;
import java.util.List;
import java.util.Map;
import java.util.Set;
import java.util.TreeSet;

/**
 * The document written down a second time, by the slowest and plainest means (search of all orders, recursion, sets
 * of days, a flow for the haul), so that LineMaking can be held against it.
 */
final class PlainLine {
    static final int BAD = -1000000001, NO = -1000000002, FULL = -1000000003, NONE = -1000000005;
    static final int NOTHING = -1000000011, KIND = -1000000012, INDEX = -1000000013, SIZE = -1000000014;

    static final class Chain {
        int ground = 50, level = 50, stratum = 0;
        boolean bored = false;

        int depth() {
            return ground - level;
        }
    }

    static final class Job {
        int kind, chain, yards, done, ahead, days = 1, first, second, paid;

        int joined() {
            return Arrays.stream(new int[] {first, second, done}).min().getAsInt();
        }
    }

    static final class Crew {
        int hands;
        int at = NONE;
    }

    interface Expression {
        int value(int a, int b, int c);
    }

    record Law(int key, int day, int parts, Expression expression) { }

    /** What an image keeps. */
    static final class State {
        List<Chain> chains = new ArrayList<>();
        int[] rule = {2, 2, 3, 9, 5, 999};
        List<Job> jobs = new ArrayList<>();
        List<Crew> crews = new ArrayList<>();
        int[] wet = new int[2000];
        int day = 0;
        List<Law> laws = new ArrayList<>();
        List<int[]> claims = new ArrayList<>();
        List<int[]> dues = new ArrayList<>();
        List<int[]> faces = new ArrayList<>();
        List<Integer> arches = new ArrayList<>();
        int purse = 0, retained = 0;

        State() {
            fresh(8);
        }

        void fresh(int n) {
            chains.clear();
            for (int i = 0; i < n; i++) {
                chains.add(new Chain());
            }
        }

        State twin() {
            State t = new State();
            t.chains.clear();
            for (Chain c : chains) {
                Chain d = new Chain();
                d.ground = c.ground;
                d.level = c.level;
                d.stratum = c.stratum;
                d.bored = c.bored;
                t.chains.add(d);
            }
            t.rule = rule.clone();
            for (Job j : jobs) {
                Job k = new Job();
                k.kind = j.kind;
                k.chain = j.chain;
                k.yards = j.yards;
                k.done = j.done;
                k.ahead = j.ahead;
                k.days = j.days;
                k.first = j.first;
                k.second = j.second;
                k.paid = j.paid;
                t.jobs.add(k);
            }
            for (Crew c : crews) {
                Crew d = new Crew();
                d.hands = c.hands;
                d.at = c.at;
                t.crews.add(d);
            }
            t.wet = wet.clone();
            t.day = day;
            t.laws.addAll(laws);
            t.claims.addAll(claims);
            t.dues.addAll(dues);
            t.faces.addAll(faces);
            t.arches.addAll(arches);
            t.purse = purse;
            t.retained = retained;
            return t;
        }
    }

    State s = new State();
    State image = null;
    byte[] tape = new byte[0];
    List<Integer> waiting = new ArrayList<>();
    /** Rows of survey values; a null value is no number; a null row is missing. */
    Integer[][] rows = new Integer[4][];
    int[] sorts = new int[4];

    static boolean in(int v, int low, int high) {
        return low <= v && v <= high;
    }

    boolean isChain(int c) {
        return in(c, 0, s.chains.size() - 1);
    }

    boolean isJob(int w) {
        return in(w, 0, s.jobs.size() - 1);
    }

    // ---- the line

    public int chains(int n) {
        if (n < 2 || n > 24) return BAD;
        if (!s.jobs.isEmpty()) return NO;
        int was = s.chains.size();
        s.fresh(n);
        return was;
    }

    public int set(int chain, int what, int v) {
        if (!isChain(chain)) return BAD;
        Chain c = s.chains.get(chain);
        int was;
        if (what == 0 && in(v, 0, 99)) {
            was = c.ground;
            c.ground = v;
        } else if (what == 1 && in(v, 0, 99)) {
            was = c.level;
            c.level = v;
        } else if (what == 2 && in(v, 0, 3)) {
            was = c.stratum;
            c.stratum = v;
        } else {
            return BAD;
        }
        return was;
    }

    public int bore(int chain) {
        if (!isChain(chain)) return BAD;
        s.chains.get(chain).bored = true;
        return s.chains.get(chain).stratum;
    }

    public int at(int chain, int what) {
        if (!isChain(chain) || !in(what, 0, 5)) return BAD;
        Chain c = s.chains.get(chain);
        if (what == 0) return c.ground;
        if (what == 1) return c.level;
        if (what == 2) return c.bored ? c.stratum : NONE;
        if (what == 3) return c.ground - c.level;
        if (what == 4) return (int) s.jobs.stream().filter(j -> j.chain == chain).count();
        return slipAt(s, chain) ? 1 : 0;
    }

    static boolean slipAt(State s, int chain) {
        return s.jobs.stream().anyMatch(j -> j.chain == chain && j.kind == 5);
    }

    public int rule(int what, int v) {
        int[] top = {9, 9, 9, 99, 99, 1999};
        if (!in(what, 0, 5) || !in(v, 0, top[what])) return BAD;
        int was = s.rule[what];
        s.rule[what] = v;
        return was;
    }

    public int steep() {
        int n = 0;
        for (int i = 0; i + 1 < s.chains.size(); i++) {
            if (Math.abs(s.chains.get(i).level - s.chains.get(i + 1).level) > s.rule[0]) n++;
        }
        return n;
    }

    /** The cost first, then the levels. */
    int[] bestLevels() {
        int n = s.chains.size();
        long[][] cost = new long[n][100];
        for (int i = n - 1; i >= 0; i--) {
            for (int l = 0; l < 100; l++) {
                int g = s.chains.get(i).ground;
                long own = s.rule[1] * Math.max(0, g - l) + s.rule[2] * Math.max(0, l - g);
                long rest = 0;
                if (i + 1 < n) {
                    rest = Long.MAX_VALUE;
                    for (int m = 0; m < 100; m++) {
                        if (Math.abs(l - m) <= s.rule[0]) rest = Math.min(rest, cost[i + 1][m]);
                    }
                }
                cost[i][l] = own + rest;
            }
        }
        int[] answer = new int[n + 1];
        int before = -1;
        for (int i = 0; i < n; i++) {
            int chosen = -1;
            for (int l = 0; l < 100; l++) {
                if (i > 0 && Math.abs(before - l) > s.rule[0]) continue;
                if (chosen < 0 || cost[i][l] < cost[i][chosen]) chosen = l;
            }
            if (i == 0) answer[0] = (int) cost[0][chosen];
            answer[i + 1] = chosen;
            before = chosen;
        }
        return answer;
    }

    public int best(int chain) {
        if (chain != -1 && !isChain(chain)) return BAD;
        return bestLevels()[chain + 1];
    }

    public int lay() {
        int[] b = bestLevels();
        for (int i = 0; i < s.chains.size(); i++) s.chains.get(i).level = b[i + 1];
        return b[0];
    }

    /** A flow: yards that are there and yards that may be borrowed, to yards that are wanted or spoilt. */
    public int haul() {
        int n = s.chains.size();
        int source = n, sink = n + 1, borrow = n + 2, spoil = n + 3, nodes = n + 4;
        int[][] cap = new int[nodes][nodes];
        int[][] cost = new int[nodes][nodes];
        int there = 0, wanted = 0;
        int many = 1000000;
        for (int i = 0; i < n; i++) {
            int d = s.chains.get(i).depth();
            if (d > 0) {
                arc(cap, cost, source, i, d, 0);
                arc(cap, cost, i, spoil, many, s.rule[4]);
                there += d;
            } else if (d < 0) {
                arc(cap, cost, i, sink, -d, 0);
                arc(cap, cost, borrow, i, many, s.rule[3]);
                wanted -= d;
            }
            // Two arcs of one pair share a residual row, so yards that meet are counted apart: the cost is the same.
            if (i + 1 < n) {
                cap[i][i + 1] = many;
                cap[i + 1][i] = many;
                cost[i][i + 1] = 1;
                cost[i + 1][i] = 1;
            }
        }
        arc(cap, cost, source, borrow, wanted, 0);
        arc(cap, cost, spoil, sink, there, 0);
        arc(cap, cost, borrow, spoil, many, 0);
        int[][] flow = new int[nodes][nodes];
        long total = 0;
        while (true) {
            long[] dist = new long[nodes];
            int[] from = new int[nodes];
            Arrays.fill(dist, Long.MAX_VALUE / 2);
            Arrays.fill(from, -1);
            dist[source] = 0;
            for (boolean moved = true; moved;) {
                moved = false;
                for (int u = 0; u < nodes; u++) {
                    for (int v = 0; v < nodes; v++) {
                        if (dist[u] >= Long.MAX_VALUE / 2) continue;
                        long step = flow[v][u] > 0 ? -cost[v][u] : cost[u][v];
                        if ((flow[v][u] > 0 || flow[u][v] < cap[u][v]) && dist[u] + step < dist[v]) {
                            dist[v] = dist[u] + step;
                            from[v] = u;
                            moved = true;
                        }
                    }
                }
            }
            if (from[sink] < 0) break;
            int push = many;
            for (int v = sink; v != source; v = from[v]) {
                int u = from[v];
                push = Math.min(push, flow[v][u] > 0 ? flow[v][u] : cap[u][v] - flow[u][v]);
            }
            for (int v = sink; v != source; v = from[v]) {
                int u = from[v];
                if (flow[v][u] > 0) flow[v][u] -= push; else flow[u][v] += push;
            }
            total += push * dist[sink];
        }
        return (int) total;
    }

    private static void arc(int[][] cap, int[][] cost, int from, int to, int most, int coins) {
        cap[from][to] = most;
        cost[from][to] = coins;
    }

    // ---- works, gangs, days

    public int work(int kind, int chain, int yards) {
        if (!List.of(0, 1, 2, 3, 4, 6).contains(kind) || !isChain(chain) || yards < 1 || yards > 9999) return BAD;
        if (s.jobs.size() == 24) return FULL;
        s.jobs.add(job(kind, chain, yards));
        return s.jobs.size() - 1;
    }

    static Job job(int kind, int chain, int yards) {
        Job j = new Job();
        j.kind = kind;
        j.chain = chain;
        j.yards = yards;
        return j;
    }

    static int rate(int kind, int stratum, int w) {
        if (kind == 0) return 2;
        if (kind == 1) return stratum == 0 ? 1 : stratum == 2 ? (w > 6 ? 0 : 2) : 3;
        if (kind == 2) return rate(0, stratum, w) - (w > 4 ? 1 : 0);
        if (kind == 3) return (int) Math.ceil(rate(1, stratum, w) / 2.0);
        if (kind == 4) return w > 7 ? 0 : 1;
        if (kind == 5) return rate(1, stratum, w) + 1;
        return 2 * rate(0, stratum, w);
    }

    static int worth(int kind, int stratum) {
        if (kind == 0 || kind == 2) return 5;
        if (kind == 1) return worth(0, stratum) + (stratum == 0 ? 5 : 0);
        if (kind == 3) return 4 * worth(1, stratum);
        if (kind == 4) return 9;
        if (kind == 5) return worth(1, stratum) / 2;
        return 2;
    }

    static int wetOf(State s, int day) {
        return day < 2000 ? s.wet[day] : 0;
    }

    public int told(int work, int what) {
        if (!isJob(work) || !in(what, 0, 12)) return BAD;
        Job j = s.jobs.get(work);
        int stratum = s.chains.get(j.chain).stratum;
        int gang = NONE;
        for (int g = 0; g < s.crews.size(); g++) if (s.crews.get(g).at == work) gang = g;
        int[] all = {j.kind, j.chain, j.yards, j.done, gang, j.ahead, j.days, rate(j.kind, stratum, s.wet[s.day]),
            worth(j.kind, stratum), j.first, j.second, j.joined(), j.paid};
        return all[what];
    }

    public int as(int work, int kind) {
        if (!isJob(work) || !in(kind, 0, 6)) return BAD;
        Job j = s.jobs.get(work);
        boolean fits = kind == 0 || kind == j.kind || kind == 1 && (j.kind == 3 || j.kind == 5);
        return fits ? j.yards : KIND;
    }

    public int ahead(int work, int set) {
        if (!isJob(work) || !in(set, 0, 16777215)) return BAD;
        int was = s.jobs.get(work).ahead;
        s.jobs.get(work).ahead = set;
        return was;
    }

    public int days(int work, int v) {
        if (!isJob(work) || !in(v, 1, 99)) return BAD;
        int was = s.jobs.get(work).days;
        s.jobs.get(work).days = v;
        return was;
    }

    public int gang(int hands) {
        if (!in(hands, 1, 99)) return BAD;
        if (s.crews.size() == 8) return FULL;
        Crew c = new Crew();
        c.hands = hands;
        s.crews.add(c);
        return s.crews.size() - 1;
    }

    public int goes(int gang, int work) {
        if (!in(gang, 0, s.crews.size() - 1)) return BAD;
        if (work != NONE && !isJob(work)) return BAD;
        if (work != NONE) {
            for (int g = 0; g < s.crews.size(); g++) if (g != gang && s.crews.get(g).at == work) return NO;
        }
        int was = s.crews.get(gang).at;
        s.crews.get(gang).at = work;
        return was;
    }

    public int wet(int day, int v) {
        if (!in(day, 0, 1999) || !in(v, 0, 9)) return BAD;
        int was = s.wet[day];
        s.wet[day] = v;
        return was;
    }

    static boolean isThrough(State s, int work) {
        return work < s.jobs.size() && s.jobs.get(work).done == s.jobs.get(work).yards;
    }

    static int[] STANDS = {99, 20, 8, 12};

    static void oneDay(State s) {
        int w = wetOf(s, s.day);
        for (Crew c : s.crews) {
            if (c.at == NONE) continue;
            Job j = s.jobs.get(c.at);
            boolean may = true;
            for (int b = 0; b < 24; b++) if ((j.ahead & 1 << b) != 0 && !isThrough(s, b)) may = false;
            if (!may) continue;
            j.done += c.hands * rate(j.kind, s.chains.get(j.chain).stratum, w) / 10;
            if (j.done > j.yards) j.done = j.yards;
        }
        for (int c = 0; c < s.chains.size(); c++) {
            int at = c;
            Chain chain = s.chains.get(c);
            boolean cutInto = s.jobs.stream().anyMatch(j -> j.chain == at && j.kind == 1 && j.done > 0);
            if (slipAt(s, c) || !cutInto) continue;
            if (chain.depth() <= STANDS[chain.stratum]) continue;
            if (chain.stratum == 2 ? w <= 4 : w <= 6) continue;
            if (s.jobs.size() < 24) s.jobs.add(job(5, c, chain.depth()));
        }
        for (int[] due : s.dues) if (due[0] == s.day) s.purse += due[1];
        if ((s.day + 1) % 28 == 0) {
            for (Job j : s.jobs) {
                int y = j.joined() < j.paid ? 0 : j.joined() - j.paid;
                int coins = y * priceOf(s, j);
                int kept = (int) ((long) coins * ruleOf(s, 1, j.kind, j.yards, 0) / 100);
                s.purse -= coins - kept;
                s.retained += kept;
                j.paid += y;
            }
        }
        s.day++;
    }

    public int run(int n) {
        if (!in(n, 1, 60)) return BAD;
        if (s.day + n > 1999) return FULL;
        for (int i = 0; i < n; i++) oneDay(s);
        return s.day;
    }

    public int foretold() {
        int bits = 0;
        for (int c = 0; c < s.chains.size(); c++) {
            int at = c;
            Chain chain = s.chains.get(c);
            if (chain.bored && s.jobs.stream().anyMatch(j -> j.chain == at && j.kind == 1)
                && chain.depth() > STANDS[chain.stratum] && !slipAt(s, c)) bits += 1 << c;
        }
        return bits;
    }

    // ---- texts

    public int feed(int a, int b, int c) {
        if (tape.length > 84) return FULL;
        int n = tape.length;
        tape = Arrays.copyOf(tape, n + 12);
        java.nio.ByteBuffer.wrap(tape, n, 12).putInt(a).putInt(b).putInt(c);
        return tape.length;
    }

    public int trim(int n) {
        if (n < 0 || n > tape.length) return BAD;
        tape = Arrays.copyOf(tape, n);
        return n;
    }

    static final class FaultAt extends Exception {
        private static final long serialVersionUID = 1L;
        final int place;

        FaultAt(int place) {
            super("fault");
            this.place = place;
        }
    }

    /** By recursion, one method for each rule of the grammar. */
    static final class Parser {
        final String t;
        int key = -1, parts = 0, next = 0, nots = 0, brackets = 0;
        final List<String> words = new ArrayList<>();
        final List<Integer> places = new ArrayList<>();

        Parser(byte[] bytes) {
            t = new String(bytes, java.nio.charset.StandardCharsets.ISO_8859_1);
            java.util.regex.Matcher m = java.util.regex.Pattern.compile("[a-z]+|[0-9]+|[^ ]", java.util.regex.Pattern.DOTALL).matcher(t);
            while (m.find()) {
                words.add(m.group());
                places.add(m.start());
            }
        }

        String peek() {
            return next < words.size() ? words.get(next) : "";
        }

        FaultAt fault() {
            return new FaultAt(next < words.size() ? places.get(next) : t.length());
        }

        static boolean isWord(String w) {
            return w.matches("[a-z]+|[0-9]+");
        }

        void take() throws FaultAt {
            if (next > 0 && isWord(peek()) && isWord(words.get(next - 1))
                && places.get(next) == places.get(next - 1) + words.get(next - 1).length()) throw fault();
            next++;
        }

        Law whole(int day) throws FaultAt {
            key = List.of("price", "retain", "late", "claim").indexOf(peek());
            if (key < 0) throw fault();
            take();
            Expression e = or();
            if (next < words.size()) throw fault();
            return new Law(key, day, parts, e);
        }

        Expression or() throws FaultAt {
            Expression left = and();
            while (peek().equals("|")) {
                take();
                Expression l = left, r = and();
                left = (a, b, c) -> (l.value(a, b, c) != 0 | r.value(a, b, c) != 0) ? 1 : 0;
            }
            return left;
        }

        Expression and() throws FaultAt {
            Expression left = test();
            while (peek().equals("&")) {
                take();
                Expression l = left, r = test();
                left = (a, b, c) -> (l.value(a, b, c) != 0 & r.value(a, b, c) != 0) ? 1 : 0;
            }
            return left;
        }

        Expression test() throws FaultAt {
            Expression l = sum();
            String sign = peek();
            if (!List.of("<", "=", ">").contains(sign)) return l;
            take();
            Expression r = sum();
            return (a, b, c) -> {
                int order = Integer.compare(l.value(a, b, c), r.value(a, b, c));
                return order == "<=>".indexOf(sign) - 1 ? 1 : 0;
            };
        }

        Expression sum() throws FaultAt {
            Expression left = term();
            while (peek().equals("+") || peek().equals("-")) {
                boolean plus = peek().equals("+");
                take();
                Expression l = left, r = term();
                left = (a, b, c) -> (int) ((long) l.value(a, b, c) + (plus ? 1L : -1L) * r.value(a, b, c));
            }
            return left;
        }

        Expression term() throws FaultAt {
            Expression left = part();
            while (peek().equals("*") || peek().equals("/")) {
                boolean times = peek().equals("*");
                take();
                Expression l = left, r = part();
                left = (a, b, c) -> {
                    long x = l.value(a, b, c), y = r.value(a, b, c);
                    return (int) (times ? x * y : y == 0 ? 0 : x / y);
                };
            }
            return left;
        }

        Expression part() throws FaultAt {
            String w = peek();
            if (w.matches("[0-9]{1,4}")) {
                take();
                parts++;
                int v = Integer.parseInt(w);
                return (a, b, c) -> v;
            }
            String[] names = {"kdw", "ky", "n", "cw"};
            if (w.matches("[a-z]") && names[key].contains(w)) {
                take();
                parts++;
                int i = names[key].indexOf(w);
                return (a, b, c) -> new int[] {a, b, c}[i];
            }
            if (w.equals("!") && nots < 8) {
                take();
                nots++;
                Expression p = part();
                nots--;
                return (a, b, c) -> p.value(a, b, c) == 0 ? 1 : 0;
            }
            if (w.equals("(") && brackets < 8) {
                take();
                brackets++;
                Expression e = or();
                if (!peek().equals(")")) throw fault();
                take();
                brackets--;
                return e;
            }
            throw fault();
        }
    }

    public int text(int day) {
        byte[] was = tape;
        tape = new byte[0];
        if (!in(day, 0, 1999)) return BAD;
        Law law;
        try {
            law = new Parser(was).whole(day);
        } catch (FaultAt f) {
            return -100 - f.place;
        }
        if (s.laws.size() == 14) return FULL;
        s.laws.add(law);
        return s.laws.size() - 1;
    }

    public int of(int text, int what) {
        if (!in(text, 0, s.laws.size() - 1) || !in(what, 0, 2)) return BAD;
        Law l = s.laws.get(text);
        return what == 0 ? l.key() : what == 1 ? l.day() : l.parts();
    }

    static int counting(State s, int key) {
        int answer = NONE, latest = -1;
        for (int i = s.laws.size() - 1; i >= 0; i--) {
            Law l = s.laws.get(i);
            if (l.key() == key && l.day() <= s.day && l.day() > latest) {
                answer = i;
                latest = l.day();
            }
        }
        return answer;
    }

    static int ruleOf(State s, int key, int a, int b, int c) {
        int i = counting(s, key);
        int v;
        if (i != NONE) v = s.laws.get(i).expression().value(a, b, c);
        else v = key == 0 ? c : key == 1 ? 10 : key == 2 ? 10 * a : b > 4 ? 1 : 0;
        if (key == 3) return v;
        int top = key == 0 ? 999 : key == 1 ? 100 : 99999;
        return v < 0 ? 0 : v > top ? top : v;
    }

    static int priceOf(State s, Job j) {
        Chain c = s.chains.get(j.chain);
        return ruleOf(s, 0, j.kind, c.depth(), worth(j.kind, c.stratum));
    }

    public int why(int key) {
        return in(key, 0, 3) ? counting(s, key) : BAD;
    }

    public int rules(int key, int a, int b, int c) {
        return in(key, 0, 3) ? ruleOf(s, key, a, b, c) : BAD;
    }

    public int price(int work) {
        return isJob(work) ? priceOf(s, s.jobs.get(work)) : BAD;
    }

    // ---- measures, claims, the purse

    public int measure(int work, int hand, int v) {
        if (!isJob(work) || !in(hand, 0, 1) || !in(v, 0, 9999)) return BAD;
        Job j = s.jobs.get(work);
        int was = hand == 0 ? j.first : j.second;
        if (hand == 0) j.first = v; else j.second = v;
        return was;
    }

    public int quarrels() {
        return (int) s.jobs.stream().filter(j -> j.first != j.second).count();
    }

    public int claim(int from, int to, int cause) {
        if (!in(from, 0, 1999) || !in(to, 0, 1999) || to < from || !in(cause, 0, 3)) return BAD;
        if (s.claims.size() == 20) return FULL;
        s.claims.add(new int[] {from, to, cause});
        return s.claims.size() - 1;
    }

    List<Set<Integer>> givenDays() {
        List<Set<Integer>> all = new ArrayList<>();
        Set<Integer> gone = new HashSet<>();
        Integer[][] rule = new Integer[4][10];
        for (int[] claim : s.claims) {
            Set<Integer> mine = new TreeSet<>();
            for (int d = claim[0]; d <= claim[1]; d++) {
                int w = s.wet[d];
                if (rule[claim[2]][w] == null) rule[claim[2]][w] = ruleOf(s, 3, claim[2], w, 0);
                if (rule[claim[2]][w] != 0 && gone.add(d)) mine.add(d);
            }
            all.add(mine);
        }
        return all;
    }

    public int given(int claim) {
        return in(claim, 0, s.claims.size() - 1) ? givenDays().get(claim).size() : BAD;
    }

    public int late(int day) {
        if (!in(day, 0, 9999)) return BAD;
        int n = day - s.rule[5];
        for (Set<Integer> days : givenDays()) n -= days.size();
        return ruleOf(s, 2, n < 0 ? 0 : n, 0, 0);
    }

    public int call(int coins) {
        if (!in(coins, 1, 99999)) return BAD;
        return s.purse += coins;
    }

    public int due(int day, int coins) {
        if (!in(day, s.day, 1999) || !in(coins, -99999, 99999)) return BAD;
        if (s.dues.size() == 20) return FULL;
        s.dues.add(new int[] {day, coins});
        return s.dues.size() - 1;
    }

    public int out() {
        for (int d = s.day; d <= s.day + 399; d++) {
            int left = s.purse;
            for (int[] due : s.dues) if (due[0] >= s.day && due[0] <= d) left += due[1];
            if (left < 0) return d;
        }
        return NONE;
    }

    // ---- faces, arches, what waits

    public int face(int day, int yards) {
        if (!in(day, 0, 1999) || !in(yards, 1, 99)) return BAD;
        if (s.faces.size() == 6) return FULL;
        s.faces.add(new int[] {day, yards});
        return s.faces.size() - 1;
    }

    public int meets(int length) {
        if (!in(length, 1, 9999)) return BAD;
        if (s.faces.isEmpty()) return NONE;
        int done = 0;
        for (int d = 0;; d++) {
            for (int[] f : s.faces) if (f[0] <= d) done += f[1];
            if (done >= length) return d;
        }
    }

    public int arch(int thrust) {
        if (!in(thrust, 1, 9)) return BAD;
        if (s.arches.size() == 8) return FULL;
        s.arches.add(thrust);
        return s.arches.size() - 1;
    }

    boolean build(List<Integer> built, int p) {
        for (int i = 0; i + 1 < s.arches.size(); i++) {
            int left = built.contains(i) ? s.arches.get(i) : 0;
            int right = built.contains(i + 1) ? s.arches.get(i + 1) : 0;
            if (Math.abs(left - right) > p) return false;
        }
        if (built.size() == s.arches.size()) return true;
        for (int i = 0; i < s.arches.size(); i++) {
            if (built.contains(i)) continue;
            built.add(i);
            if (build(built, p)) return true;
            built.remove(built.size() - 1);
        }
        return false;
    }

    public int order(int p, int i) {
        if (!in(p, 0, 9) || i < 0) return BAD;
        List<Integer> built = new ArrayList<>();
        if (!build(built, p) || i >= built.size()) return NONE;
        return built.get(i);
    }

    int throughOf(int work, Set<Integer> open, Map<Integer, Integer> known) {
        if (known.containsKey(work)) return known.get(work);
        if (!isJob(work) || !open.add(work)) return NONE;
        int latest = 0;
        for (int b = 0; b < 24 && latest != NONE; b++) {
            if ((s.jobs.get(work).ahead >> b & 1) == 0) continue;
            int t = throughOf(b, open, known);
            latest = t == NONE ? NONE : Math.max(latest, t);
        }
        open.remove(work);
        known.put(work, latest == NONE ? NONE : latest + s.jobs.get(work).days);
        return known.get(work);
    }

    public int through(int work) {
        return isJob(work) ? throughOf(work, new HashSet<>(), new HashMap<>()) : BAD;
    }

    public int chain(int work, int i) {
        if (!isJob(work) || i < 0) return BAD;
        if (through(work) == NONE) return NONE;
        int one = work;
        for (int k = 0; k < i; k++) {
            int next = NONE;
            for (int b = 23; b >= 0; b--) {
                if ((s.jobs.get(one).ahead >> b & 1) != 0 && (next == NONE || through(b) >= through(next))) next = b;
            }
            if (next == NONE) return NONE;
            one = next;
        }
        return one;
    }

    // ---- surveys

    public int survey(int survey, int sort, int n) {
        if (!in(survey, 0, 3) || !in(sort, -1, 1)) return BAD;
        if (sort == -1) {
            rows[survey] = null;
            return 0;
        }
        if (n > 24) return BAD;
        if (n < 0) return SIZE;
        rows[survey] = new Integer[n];
        Arrays.fill(rows[survey], 0);
        sorts[survey] = sort;
        return n;
    }

    public int note(int survey, int place, int v) {
        if (!in(survey, 0, 3)) return BAD;
        if (rows[survey] == null) return NOTHING;
        if (!in(place, 0, rows[survey].length - 1)) return INDEX;
        if (sorts[survey] == 1) {
            if (v == NONE) return KIND;
            int low = v & 0xffff;
            rows[survey][place] = low > 32767 ? low - 65536 : low;
            return 1;
        }
        if (v != NONE && Math.abs((long) v) > 100000) return BAD;
        rows[survey][place] = v == NONE ? null : Integer.valueOf(v);
        return 1;
    }

    public int read(int survey, int place) {
        if (!in(survey, 0, 3)) return BAD;
        Integer[] r = rows[survey];
        if (r == null) return NOTHING;
        if (!in(place, 0, r.length - 1)) return INDEX;
        if (r[place] != null) return r[place];
        int left = place, right = place;
        while (left >= 0 && r[left] == null) left--;
        while (right < r.length && r[right] == null) right++;
        if (left < 0 && right == r.length) return KIND;
        if (left < 0) return r[right];
        if (right == r.length) return r[left];
        BigInteger span = BigInteger.valueOf(right - left);
        BigInteger rise = BigInteger.valueOf(r[right] - r[left]).multiply(BigInteger.valueOf(place - left));
        return BigInteger.valueOf(r[left]).multiply(span).add(rise).divide(span).intValueExact();
    }

    public int copy(int from, int place, int to, int at, int many) {
        if (!in(from, 0, 3) || !in(to, 0, 3)) return BAD;
        if (rows[from] == null || rows[to] == null) return NOTHING;
        if (sorts[from] != sorts[to]) return KIND;
        if (many < 0 || place < 0 || at < 0) return INDEX;
        if ((long) place + many > rows[from].length || (long) at + many > rows[to].length) return INDEX;
        Integer[] held = Arrays.copyOfRange(rows[from], place, place + many);
        for (int i = 0; i < many; i++) rows[to][at + i] = held[i];
        return many;
    }

    // ---- rows, images

    public int tell(int v) {
        if (waiting.size() == 60) return FULL;
        waiting.add(v);
        return waiting.size();
    }

    /** What n days from the image on tell. */
    List<Integer> daysTold(int n) {
        State t = image.twin();
        List<Integer> due = new ArrayList<>();
        for (int i = 0; i < n; i++) {
            oneDay(t);
            due.add(t.jobs.stream().mapToInt(j -> j.done).sum());
            due.add(t.purse);
        }
        return due;
    }

    public int check(int n) {
        List<Integer> told = waiting;
        waiting = new ArrayList<>();
        if (!in(n, 1, 30)) return BAD;
        if (image == null) return NO;
        List<Integer> due = daysTold(n);
        if (due.equals(told)) return 0;
        int k = 0;
        while (k < told.size() && k < due.size() && told.get(k).equals(due.get(k))) k++;
        return 1 + k;
    }

    public int keep() {
        image = s.twin();
        return s.day;
    }

    public int back() {
        if (image == null) return NO;
        s = image.twin();
        return s.day;
    }

    public int count(int what) {
        if (!in(what, 0, 14)) return BAD;
        int through = (int) s.jobs.stream().filter(j -> j.done == j.yards).count();
        int slips = (int) s.jobs.stream().filter(j -> j.kind == 5).count();
        int[] all = {s.chains.size(), s.jobs.size(), through, slips, s.crews.size(), s.laws.size(), s.claims.size(),
            s.dues.size(), s.faces.size(), s.arches.size(), s.purse, s.retained, waiting.size(), tape.length, s.day};
        return all[what];
    }
}
