import java.util.ArrayList;
import java.util.Arrays;
import java.util.HashSet;
import java.util.List;
import java.util.Set;

/** The document once more in its slowest and plainest form, for ModelTest to compare with. */
final class Model {
    static final class Fault extends RuntimeException {
        private static final long serialVersionUID = 1L;
        final int answer;

        Fault(int number, int place) {
            super(null, null, false, false);
            answer = -1000 * number - place;
        }
    }

    static final class Refused extends RuntimeException {
        private static final long serialVersionUID = 1L;

        Refused() {
            super(null, null, false, false);
        }
    }

    static final class Thing implements Cloneable {
        boolean told;
        int place;
        int value;
        int sum;
        boolean gone;

        Thing copy() {
            Thing t = new Thing();
            t.told = told;
            t.place = place;
            t.value = value;
            t.sum = sum;
            t.gone = gone;
            return t;
        }

        boolean left() {
            return told && !gone;
        }
    }

    /** p m n v i d g t w by their letters. */
    static final class Letters {
        final int[] of = new int[128];
    }

    interface Amount {
        int of(Letters l);
    }

    interface Test {
        boolean of(Letters l);
    }

    static final class Rule {
        char letter;
        Amount amount;
        Test test;
    }

    String kinds = ".".repeat(96);
    int[] state = new int[96];
    int[] left = new int[96];
    Thing[] things = new Thing[24];
    int wind;
    int minute;
    int x = 1;
    List<Rule> rules = new ArrayList<>();
    Model kept;

    Model() {
        for (int i = 0; i < 24; i++) {
            things[i] = new Thing();
        }
    }

    Model copy() {
        Model m = new Model();
        m.take(this);
        m.kinds = kinds;
        m.rules = rules;
        return m;
    }

    void take(Model m) {
        state = m.state.clone();
        left = m.left.clone();
        for (int i = 0; i < 24; i++) {
            things[i] = m.things[i].copy();
        }
        wind = m.wind;
        minute = m.minute;
        x = m.x;
    }

    void keep() {
        kept = copy();
    }

    boolean undo() {
        if (kept == null) {
            return false;
        }
        take(kept);
        for (int p = 0; p < 96; p++) {
            if (!wood(p)) {
                state[p] = 0;
                left[p] = 0;
            }
        }
        return true;
    }

    boolean wood(int p) {
        return kinds.charAt(p) == '#';
    }

    static List<Integer> next(int p) {
        List<Integer> list = new ArrayList<>();
        for (int d = 0; d < 4; d++) {
            if (next(p, d) >= 0) {
                list.add(next(p, d));
            }
        }
        return list;
    }

    static int next(int p, int d) {
        int px = p % 12 + new int[] {0, 1, 0, -1}[d];
        int py = p / 12 + new int[] {-1, 0, 1, 0}[d];
        return px < 0 || px > 11 || py < 0 || py > 7 ? -1 : 12 * py + px;
    }

    // texts: END stands behind the last byte of each

    private static final char END = 255;
    private String text;
    private int at;

    private char sign() {
        return at < text.length() ? text.charAt(at) : END;
    }

    private Fault cannotStand() {
        return new Fault(1, at);
    }

    int town(String told) {
        String[] rows = told.split("/", -1);
        int from = 0;
        StringBuilder all = new StringBuilder();
        try {
            for (int y = 0; y < rows.length; y++) {
                if (y == 8 && rows[y].matches("(?s)[2-9.#+~].*")) {
                    throw new Fault(4, from);
                }
                all.append(row(rows[y], from));
                from += rows[y].length() + 1;
            }
        } catch (Fault f) {
            return f.answer;
        }
        kinds = (all + ".".repeat(96)).substring(0, 96);
        state = new int[96];
        left = new int[96];
        return (int) kinds.chars().filter(c -> c == '#').count();
    }

    private static String row(String row, int from) {
        StringBuilder signs = new StringBuilder();
        int k = 0;
        do {
            String rest = row.substring(k);
            if (rest.matches("(?s)[2-9][.#+~].*")) {
                add(signs, rest.charAt(1), rest.charAt(0) - '0', from + k);
                k += 2;
            } else if (rest.matches("(?s)[.#+~].*")) {
                add(signs, rest.charAt(0), 1, from + k);
                k++;
            } else {
                throw new Fault(1, from + k + (rest.matches("(?s)[2-9].*") ? 1 : 0));
            }
        } while (k < row.length());
        return (signs + "............").substring(0, 12);
    }

    private static void add(StringBuilder signs, char sign, int many, int place) {
        if (signs.length() + many > 12) {
            throw new Fault(6, place);
        }
        signs.append(String.valueOf(sign).repeat(many));
    }

    int orders(String told) {
        Model m = copy();
        m.text = told;
        int lines = 0;
        try {
            do {
                if (lines > 0) {
                    m.at++;
                }
                if ("0123456789*~!".indexOf(m.sign()) >= 0 && lines == 16) {
                    throw new Fault(4, m.at);
                }
                m.line();
                lines++;
            } while (m.sign() == ';');
        } catch (Fault f) {
            return f.answer;
        }
        take(m);
        kinds = m.kinds;
        return lines;
    }

    private void line() {
        int first = at;
        if (Character.isDigit(sign())) {
            thing(things[number(4, 23)], first);
        } else if (sign() == '*') {
            at++;
            int p = place();
            if (!wood(p) || state[p] != 0) {
                throw new Fault(8, first + 1);
            }
            lineEnds();
            state[p] = 1;
            left[p] = 3;
        } else if (sign() == '~') {
            at++;
            int p = place();
            lineEnds();
            kinds = kinds.substring(0, p) + "~" + kinds.substring(p + 1);
            state[p] = 0;
            left[p] = 0;
        } else if (sign() == '!') {
            at++;
            if ("0123".indexOf(sign()) < 0) {
                throw cannotStand();
            }
            wind = sign() - '0';
            at++;
            lineEnds();
        } else {
            throw cannotStand();
        }
    }

    private void thing(Thing t, int first) {
        char sign = sign();
        if ("@=+".indexOf(sign) < 0) {
            throw cannotStand();
        }
        if (sign != '@' && !t.told) {
            throw new Fault(7, first);
        }
        at++;
        int number = sign == '@' ? place() : number(4, 9999);
        lineEnds();
        if (sign == '@') {
            t.told = true;
            t.gone = false;
            t.place = number;
        } else if (sign == '=') {
            t.value = number;
        } else {
            t.sum = number;
        }
    }

    private void lineEnds() {
        if (at < text.length() && sign() != ';') {
            throw cannotStand();
        }
    }

    private int place() {
        int px = number(4, 11);
        if (sign() != ',') {
            throw cannotStand();
        }
        at++;
        return px + 12 * number(4, 7);
    }

    private int number(int digits, int most) {
        int first = at;
        while (at < text.length() && sign() >= '0' && sign() <= '9') {
            if (at - first == digits) {
                throw new Fault(2, at);
            }
            at++;
        }
        if (at == first) {
            throw cannotStand();
        }
        int number = Integer.parseInt(text.substring(first, at));
        if (number > most) {
            throw new Fault(3, first);
        }
        return number;
    }

    int law(String told) {
        text = told;
        at = 0;
        List<Rule> read = new ArrayList<>();
        try {
            do {
                if (!read.isEmpty()) {
                    at++;
                }
                read.add(rule(read.size()));
            } while (sign() == ';');
            if (at < text.length()) {
                throw cannotStand();
            }
        } catch (Fault f) {
            return f.answer;
        }
        rules = read;
        return rules.size();
    }

    private Rule rule(int ahead) {
        Rule r = new Rule();
        r.letter = sign();
        if ("bsx".indexOf(sign()) < 0) {
            throw cannotStand();
        }
        if (ahead == 16) {
            throw new Fault(4, at);
        }
        at++;
        r.amount = r.letter == 'x' ? l -> 0 : sum(0);
        r.test = inBrackets(0);
        return r;
    }

    private void take(char c) {
        if (sign() != c) {
            throw cannotStand();
        }
        at++;
    }

    private void open(int open) {
        if (open == 6) {
            throw new Fault(5, at);
        }
        at++;
    }

    private Test inBrackets(int open) {
        if (sign() != '(') {
            throw cannotStand();
        }
        open(open);
        Test c = anyOf(open + 1);
        take(')');
        return c;
    }

    private Test anyOf(int open) {
        Test first = allOf(open);
        if (sign() != '|') {
            return first;
        }
        at++;
        Test rest = anyOf(open);
        return l -> first.of(l) || rest.of(l);
    }

    private Test allOf(int open) {
        Test first = test(open);
        if (sign() != '&') {
            return first;
        }
        at++;
        Test rest = allOf(open);
        return l -> first.of(l) && rest.of(l);
    }

    private Test test(int open) {
        if (sign() == '!') {
            open(open);
            Test t = test(open + 1);
            return l -> !t.of(l);
        }
        if (sign() == '(') {
            return inBrackets(open);
        }
        Amount a = sum(open);
        char c = sign();
        if ("<>=".indexOf(c) < 0) {
            throw cannotStand();
        }
        at++;
        Amount b = sum(open);
        return l -> {
            long va = a.of(l);
            long vb = b.of(l);
            return c == '<' ? va < vb : c == '>' ? va > vb : va == vb;
        };
    }

    private Amount sum(int open) {
        Amount all = term(open);
        while (sign() == '+' || sign() == '-') {
            char c = sign();
            at++;
            Amount a = all;
            Amount b = term(open);
            all = l -> (int) (c == '+' ? (long) a.of(l) + b.of(l) : (long) a.of(l) - b.of(l));
        }
        return all;
    }

    private Amount term(int open) {
        Amount all = factor(open);
        while (sign() == '*' || sign() == '/' || sign() == '%') {
            char c = sign();
            at++;
            Amount a = all;
            Amount b = factor(open);
            all = l -> {
                long va = a.of(l);
                long vb = b.of(l);
                if (c == '*') {
                    return (int) (va * vb);
                }
                if (vb == 0) {
                    throw new Refused();
                }
                return (int) (c == '/' ? va / vb : va % vb);
            };
        }
        return all;
    }

    private Amount factor(int open) {
        char c = sign();
        if (c == '[') {
            open(open);
            Amount a = sum(open + 1);
            take(']');
            return a;
        }
        if (c >= '0' && c <= '9') {
            int n = number(5, 99999);
            return l -> n;
        }
        if ("pmnvidgtw".indexOf(c) < 0) {
            throw cannotStand();
        }
        at++;
        return l -> l.of[c];
    }

    // a fire

    int draw() {
        x = (int) ((25173L * x + 13849L) % 65536L);
        return x % 10;
    }

    int sums(int p, boolean insured) {
        int all = 0;
        for (Thing t : things) {
            if (t.left() && t.place == p && t.sum > 0 == insured) {
                all += insured ? t.sum : t.value;
            }
        }
        return all;
    }

    private Letters letters(int p, int m, int d, int w) {
        Letters l = new Letters();
        l.of['p'] = p;
        l.of['m'] = m;
        l.of['n'] = (int) next(p).stream().filter(q -> state[q] == 1).count();
        l.of['v'] = sums(p, false);
        l.of['i'] = sums(p, true);
        l.of['d'] = d;
        l.of['g'] = wind;
        l.of['t'] = minute % 100;
        l.of['w'] = w;
        return l;
    }

    private static boolean holds(Rule r, Letters l) {
        try {
            return r.test.of(l);
        } catch (Refused e) {
            return false;
        }
    }

    private int amount(char letter, Letters l, int least, int most) {
        for (Rule r : rules) {
            if (r.letter == letter && holds(r, l)) {
                int e = 0;
                try {
                    e = r.amount.of(l);
                } catch (Refused refused) {
                    e = 0;
                }
                return e < least ? least : e > most ? most : e;
            }
        }
        return least;
    }

    void minutes(int n) {
        for (int k = 0; k < n && minute < 9999; k++) {
            int[] began = state.clone();
            for (int p = 0; p < 96; p++) {
                if (began[p] == 1) {
                    burn(p);
                }
            }
            minute++;
        }
    }

    private void burn(int p) {
        for (Thing t : things) {
            if (t.told && t.place == p && t.sum == 0) {
                t.gone = true;
            }
        }
        for (int d = 0; d < 4; d++) {
            int q = next(p, d);
            if (q >= 0 && wood(q) && state[q] == 0) {
                int s = amount('s', letters(q, left[p], d, 0), 0, 10);
                if (draw() < s) {
                    left[q] = amount('b', letters(q, 0, 0, 0), 1, 9);
                    state[q] = 1;
                }
            }
        }
        Letters l = letters(p, left[p], 0, draw());
        boolean out = rules.stream().anyMatch(r -> r.letter == 'x' && holds(r, l));
        left[p] = out ? 0 : left[p] - 1;
        state[p] = left[p] == 0 ? 2 : 1;
    }

    int places(int wanted) {
        return (int) Arrays.stream(state).filter(s -> s == wanted).count();
    }

    int bits(boolean gone) {
        int bits = 0;
        for (int i = 0; i < 24; i++) {
            bits |= (gone ? things[i].gone : things[i].told) ? 1 << i : 0;
        }
        return bits;
    }

    int lost() {
        return Arrays.stream(things).filter(t -> t.gone).mapToInt(t -> t.value).sum();
    }

    int tried(int n, int what) {
        Model m = copy();
        m.minutes(n);
        switch (what) {
            case 0:
                return m.places(1);
            case 1:
                return m.places(2);
            case 2:
                return m.lost() - lost();
            case 3:
                return m.bits(true);
            default:
                return Arrays.stream(m.things).filter(t -> t.left() && m.state[t.place] != 0).mapToInt(t -> t.sum).sum();
        }
    }

    int comes(int p, int n) {
        Model m = copy();
        for (int k = 0; k <= n; k++) {
            if (m.state[p] != 0) {
                return k;
            }
            m.minutes(1);
        }
        return -2;
    }

    int over(int n) {
        Model m = copy();
        for (int k = 0; k <= n; k++) {
            if (m.places(1) == 0) {
                return k;
            }
            m.minutes(1);
        }
        return -2;
    }

    // fires for sure, told as growing sets

    Set<Integer> grown(Set<Integer> fire, Set<Integer> without) {
        Set<Integer> more = new HashSet<>(fire);
        for (int p : fire) {
            for (int q : next(p)) {
                if (wood(q) && !without.contains(q)) {
                    more.add(q);
                }
            }
        }
        return more;
    }

    private Set<Integer> fireBehind(Set<Integer> start, int n) {
        Set<Integer> fire = start;
        for (int k = 0; k < n; k++) {
            fire = grown(fire, Set.of());
        }
        return fire;
    }

    int steps(int from, int to) {
        if (!wood(from) || !wood(to)) {
            return -3;
        }
        Set<Integer> fire = Set.of(from);
        for (int k = 0; k < 97; k++) {
            if (fire.contains(to)) {
                return k;
            }
            fire = grown(fire, Set.of());
        }
        return -2;
    }

    private Set<Integer> all(int wanted) {
        Set<Integer> set = new HashSet<>();
        for (int p = 0; p < 96; p++) {
            if (wanted < 0 ? wood(p) && state[p] != 0 : state[p] == wanted) {
                set.add(p);
            }
        }
        return set;
    }

    int began(int n, int what) {
        int many = 0;
        int lowest = -2;
        for (int p = 95; p >= 0; p--) {
            if (wood(p) && fireBehind(Set.of(p), n).equals(all(-1))) {
                many++;
                lowest = p;
            }
        }
        return what == 0 ? many : lowest;
    }

    /** Tries all choices of none, one, two and three; by more than four it is never. */
    int breaks(int from, int to) {
        if (!wood(from) || !wood(to)) {
            return -3;
        }
        if (next(from).contains(to)) {
            return -2;
        }
        List<Integer> woods = new ArrayList<>();
        for (int p = 0; p < 96; p++) {
            if (wood(p) && p != from && p != to) {
                woods.add(p);
            }
        }
        for (int k = 0; k < 4; k++) {
            if (parts(woods, 0, k, new HashSet<>(), from, to)) {
                return k;
            }
        }
        return 4;
    }

    /** As breaks, for towns with too much WOOD to try all: by ways from node to node, found depth first. */
    int breaksByWays(int from, int to) {
        boolean[][] arc = new boolean[192][192];
        for (int p = 0; p < 96; p++) {
            arc[p][96 + p] = p != from && p != to;
            for (int q : next(p)) {
                arc[96 + p][q] = wood(p) && wood(q);
            }
        }
        int ways = 0;
        while (turnsAWay(arc, 96 + from, to, new boolean[192])) {
            ways++;
        }
        return ways;
    }

    private static boolean turnsAWay(boolean[][] arc, int node, int to, boolean[] seen) {
        seen[node] = true;
        for (int next = 0; next < 192; next++) {
            if (arc[node][next] && !seen[next] && (next == to || turnsAWay(arc, next, to, seen))) {
                arc[node][next] = false;
                arc[next][node] = true;
                return true;
            }
        }
        return node == to;
    }

    private boolean parts(List<Integer> woods, int first, int k, Set<Integer> water, int from, int to) {
        if (k == 0) {
            Set<Integer> fire = Set.of(from);
            Set<Integer> more = grown(fire, water);
            while (more.size() > fire.size()) {
                fire = more;
                more = grown(fire, water);
            }
            return !fire.contains(to);
        }
        for (int i = first; i < woods.size(); i++) {
            water.add(woods.get(i));
            if (parts(woods, i + 1, k - 1, water, from, to)) {
                return true;
            }
            water.remove(woods.get(i));
        }
        return false;
    }

    /** All PLACES where he can be, MINUTE by MINUTE. */
    int getsOut(int from) {
        if (kinds.charAt(from) == '~' || state[from] == 1) {
            return -3;
        }
        Set<Integer> he = Set.of(from);
        Set<Integer> fire = all(1);
        for (int k = 0; k < 200; k++) {
            for (int p : he) {
                if (p % 12 == 0 || p % 12 == 11 || p < 12 || p >= 84) {
                    return k;
                }
            }
            fire = grown(fire, Set.of());
            Set<Integer> then = new HashSet<>(he);
            for (int p : he) {
                then.addAll(next(p));
            }
            then.removeAll(fire);
            then.removeIf(p -> kinds.charAt(p) == '~');
            he = then;
        }
        return -2;
    }

    int safe(int what) {
        Set<Integer> fire = fireBehind(all(1), 96);
        int many = 0;
        int lowest = -2;
        for (int p = 95; p >= 0; p--) {
            if (wood(p) && !fire.contains(p)) {
                many++;
                lowest = p;
            }
        }
        return what == 0 ? many : lowest;
    }

    int woods(int what) {
        Set<Set<Integer>> groups = new HashSet<>();
        for (int p = 0; p < 96; p++) {
            if (wood(p)) {
                groups.add(fireBehind(Set.of(p), 96));
            }
        }
        return what == 0 ? groups.size() : groups.stream().mapToInt(Set::size).max().orElse(0);
    }

    // reckoning, by trying all

    static int insure(int[] b, int n, int much, int what) {
        int[] best = null;
        for (int bits = (1 << n) - 1; bits >= 0; bits--) {
            int[] mine = {0, 0, bits};
            for (int i = 0; i < n; i++) {
                mine[0] += (bits >> i & 1) * b[2 * i];
                mine[1] += (bits >> i & 1) * b[2 * i + 1];
            }
            if (mine[1] <= much && (best == null || mine[0] > best[0] || mine[0] == best[0] && mine[1] <= best[1])) {
                best = mine;
            }
        }
        return best[what];
    }

    static int roundFigure(int v) {
        int[] figures = {1, 2, 5, 10, 20, 50, 100, 200, 500, 1000, 2000, 5000, 10000, 20000, 50000, 100000, 200000, 500000, 1000000};
        for (int off = 0;; off++) {
            for (int f : figures) {
                if (Math.abs(f - v) == off) {
                    return f;
                }
            }
        }
    }

    static int ruin(int[] b, int n, int first, int what) {
        Set<Integer> stand = new HashSet<>();
        for (int i = 0; i < n; i++) {
            stand.add(i);
        }
        Set<Integer> lost = Set.of(first);
        while (!lost.isEmpty()) {
            stand.removeAll(lost);
            lost = new HashSet<>();
            for (int i : stand) {
                int has = b[i * n + i];
                int owes = 0;
                for (int j : stand) {
                    has += i == j ? 0 : b[j * n + i];
                    owes += i == j ? 0 : b[i * n + j];
                }
                if (owes > has) {
                    lost.add(i);
                }
            }
        }
        int bits = (1 << n) - 1;
        for (int i : stand) {
            bits -= 1 << i;
        }
        return what == 0 ? n - stand.size() : bits;
    }

    static int carried(int[] b, int n) {
        for (int i = 0; i < n; i++) {
            if (b[3 * i] == 0 || b[3 * i] > 60) {
                return -2;
            }
        }
        return carried(b, n, 0, 0);
    }

    private static int carried(int[] b, int n, int out, int time) {
        int best = 0;
        for (int i = 0; i < n; i++) {
            if ((out >> i & 1) == 0 && time + b[3 * i] <= b[3 * i + 2]) {
                best = Math.max(best, b[3 * i + 1] + carried(b, n, out | 1 << i, time + b[3 * i]));
            }
        }
        return best;
    }

    static int premium(int[] b, int n, int what) {
        int mean = 0;
        int odds = 1;
        for (int i = 0; i < n; i++) {
            if (b[2 * i + 1] > 10) {
                return -2;
            }
            mean += b[2 * i] * b[2 * i + 1];
            odds *= b[2 * i + 1];
        }
        return what == 0 ? mean : odds;
    }
}
