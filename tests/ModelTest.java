import java.util.Random;

/** All promises over many runs of drawn calls, each answer beside that of Model. */
public final class ModelTest {
    private static final int RUNS = 4000;
    /** What later calls answer is free; a step with its look at the state, and the last look, take 275 at most. */
    private static final int CALLS = 512 - 275;

    private final Due due;
    private final Random random;
    private final InsuredFlame flame = new InsuredFlame();
    private final Model model = new Model();
    private final int run;
    private int calls = 0;

    private ModelTest(Due due, int run) {
        this.due = due;
        this.run = run;
        this.random = new Random(run);
    }

    public static void main(String[] args) {
        Due due = new Due();
        for (int run = 0; run < RUNS; run++) {
            new ModelTest(due, run).play();
        }
        due.end();
    }

    private int below(int n) {
        return random.nextInt(n);
    }

    private boolean rarely() {
        return below(10) == 0;
    }

    private String pick(String... of) {
        return of[below(of.length)];
    }

    /** Each answer is that of one call. */
    private void is(String call, long got, long want) {
        calls++;
        due.is("run " + run + ": " + call, got, want);
    }

    private int fed(String text) {
        calls += (text.length() + 19) / 20;
        return Due.fed(flame, text);
    }

    private void fed(int[] bytes) {
        calls += (bytes.length + 19) / 20;
        Due.fed(flame, bytes);
    }

    private void play() {
        tellTown();
        tellLaw();
        while (calls < CALLS) {
            switch (below(20)) {
                case 0:
                    if (rarely()) {
                        tellTown();
                    }
                    break;
                case 1:
                    if (rarely()) {
                        tellLaw();
                    }
                    break;
                case 2:
                case 3:
                case 4:
                case 5:
                    tellOrders();
                    break;
                case 6:
                    burn();
                    break;
                case 7:
                    keepOrUndo();
                    break;
                case 8:
                    reckon();
                    break;
                case 9:
                    fires();
                    break;
                default:
                    ask();
                    break;
            }
            if (below(8) == 0) {
                state();
            }
        }
        state();
    }

    /** One sign more, less or other than it was. */
    private String spoilt(String text, String signs) {
        if (below(3) != 0 || text.isEmpty()) {
            return text;
        }
        int at = below(text.length() + 1);
        String other = pick(String.valueOf(signs.charAt(below(signs.length()))), "");
        return text.substring(0, at) + other + text.substring(Math.min(text.length(), at + below(2)));
    }

    private static String cut(String text, int most) {
        return text.substring(0, Math.min(text.length(), most));
    }

    private void tellTown() {
        StringBuilder text = new StringBuilder();
        int rows = 1 + below(rarely() ? 10 : 8);
        for (int y = 0; y < rows; y++) {
            text.append(y == 0 ? "" : "/");
            int signs = 1 + below(6);
            for (int k = 0; k < signs; k++) {
                text.append(pick("", "", "", "2", "3")).append(pick("#", "#", "#", "#", ".", "+", "~"));
            }
        }
        String told = cut(spoilt(text.toString(), "#.+~/29103x "), 120);
        if (told.isEmpty()) {
            return;
        }
        is("town " + told, flame.town(fed(told)), model.town(told));
    }

    private String amount(int deep) {
        StringBuilder text = new StringBuilder();
        int parts = 1 + below(below(3) == 0 ? 4 : 1);
        for (int k = 0; k < parts; k++) {
            text.append(k == 0 ? "" : pick("+", "-", "*", "/", "%"));
            if (deep > 0 && below(5) == 0) {
                text.append("[").append(amount(deep - 1)).append("]");
            } else {
                text.append(pick("p", "m", "n", "v", "i", "d", "g", "t", "w", "0", "1", "2", "3", "5", "7", "10", "12", "99999"));
            }
        }
        return text.toString();
    }

    private String condition(int deep) {
        StringBuilder text = new StringBuilder();
        int parts = 1 + below(3);
        for (int k = 0; k < parts; k++) {
            text.append(k == 0 ? "" : pick("&", "|"));
            for (; below(4) == 0;) {
                text.append("!");
            }
            if (deep > 0 && below(4) == 0) {
                text.append("(").append(condition(deep - 1)).append(")");
            } else {
                text.append(amount(deep / 2)).append(pick("<", ">", "=")).append(amount(deep / 2));
            }
        }
        return text.toString();
    }

    private void tellLaw() {
        StringBuilder text = new StringBuilder();
        int rules = rarely() ? 14 + below(4) : 1 + below(5);
        for (int k = 0; k < rules; k++) {
            text.append(k == 0 ? "" : ";");
            String letter = pick("b", "s", "s", "x");
            int deep = rules > 9 ? 0 : below(5);
            text.append(letter);
            if (!letter.equals("x")) {
                text.append(pick(amount(deep), "10", "8", "5", "4"));
            }
            text.append("(").append(rules > 9 || below(3) == 0 ? pick("n=1", "n<3", "m=0", "w>6", "1=1") : condition(deep)).append(")");
        }
        if (text.length() > 240) {
            text.setLength(0);
            text.append("s9(n<4);b1+n+p%5(1=1);x(w=0&m>1)");
        }
        String told = cut(spoilt(text.toString(), "bsxpmnvidgtw0123456789+-*/%[]()!&|<>=; y"), 240);
        if (told.isEmpty()) {
            return;
        }
        is("law " + told, flame.law(fed(told)), model.law(told));
        is("count 6", flame.count(6), model.rules.size());
    }

    private String place() {
        return below(rarely() ? 14 : 8) + "," + below(rarely() ? 10 : 7);
    }

    private String line() {
        String thing = String.valueOf(below(rarely() ? 27 : 6));
        switch (below(10)) {
            case 0:
            case 1:
            case 2:
                return thing + "@" + place();
            case 3:
            case 4:
                return thing + "=" + below(pickInt(10, 1000, 12000));
            case 5:
                return thing + "+" + below(pickInt(2, 1000, 12000));
            case 6:
            case 7:
                return "*" + place();
            case 8:
                return "~" + place();
            default:
                return "!" + below(rarely() ? 6 : 4);
        }
    }

    private int pickInt(int... of) {
        return of[below(of.length)];
    }

    private void tellOrders() {
        StringBuilder text = new StringBuilder(line());
        int lines = rarely() ? 20 : below(4);
        for (int k = 0; k < lines; k++) {
            text.append(";").append(lines == 20 ? "!1" : line());
        }
        String told = cut(spoilt(text.toString(), "0123456789@=+*~!,;x "), 120);
        if (told.isEmpty()) {
            return;
        }
        is("orders " + told, flame.orders(fed(told)), model.orders(told));
    }

    private void burn() {
        if (below(4) == 0) {
            int seed = below(65536);
            is("seed " + seed, flame.seed(seed) ? 1 : 0, 1);
            model.x = seed;
        }
        int n = 1 + below(rarely() ? 100 : 4);
        model.minutes(n);
        is("minutes " + n, flame.minutes(n), model.places(1));
    }

    private void keepOrUndo() {
        if (below(2) == 0) {
            model.keep();
            is("keep", flame.keep(), model.minute);
        } else {
            is("undo", flame.undo() ? 1 : 0, model.undo() ? 1 : 0);
        }
    }

    private int[] bytes(int n, int most) {
        int[] bytes = new int[n];
        for (int k = 0; k < n; k++) {
            bytes[k] = below(most);
        }
        return bytes;
    }

    private void reckon() {
        int n = 1 + below(10);
        int most = pickInt(4, 12, 30, 256);
        int[] b = bytes(40, most);
        int what = below(3);
        int much = below(pickInt(10, 100, 2551));
        fed(b);
        is("insure", flame.insure(n, much, what), Model.insure(b, n, much, what));
        int companies = 2 + below(5);
        int first = below(companies);
        fed(b);
        is("ruin", flame.ruin(companies, first, what & 1), Model.ruin(b, companies, first, what & 1));
        int things = 1 + below(7);
        for (int i = 0; i < 3 * things; i += 3) {
            b[i] += b[i] == 0 && below(20) != 0 ? 1 : 0;
            b[i] %= below(20) != 0 ? 60 : 256;
        }
        fed(b);
        is("carried", flame.carried(things), Model.carried(b, things));
        int insured = 1 + below(8);
        for (int i = 0; i < insured; i++) {
            b[2 * i + 1] %= 11 + (rarely() ? 1 : 0);
        }
        fed(b);
        is("premium", flame.premium(insured, what & 1), Model.premium(b, insured, what & 1));
        int v = 1 + below(pickInt(100, 10000, 999999));
        is("roundFigure " + v, flame.roundFigure(v), Model.roundFigure(v));
    }

    private void fires() {
        for (int what = 0; what < 2; what++) {
            is("safe " + what, flame.safe(what), model.safe(what));
            is("woods " + what, flame.woods(what), model.woods(what));
            int n = below(8);
            is("began " + n, flame.began(n, what), model.began(n, what));
        }
        for (int k = 0; k < 8; k++) {
            int from = below(96);
            int to = below(96);
            is("steps " + from + ", " + to, flame.steps(from, to), model.steps(from, to));
            is("getsOut " + from, flame.getsOut(from), model.getsOut(from));
            boolean small = model.kinds.chars().filter(c -> c == '#').count() < 24;
            if (from != to && (small || !model.wood(from))) {
                is("breaks " + from + ", " + to, flame.breaks(from, to), model.breaks(from, to));
            }
        }
    }

    private void ask() {
        int n = 1 + below(rarely() ? 100 : 12);
        int what = below(5);
        is("tried " + n + ", " + what, flame.tried(n, what), model.tried(n, what));
        int p = below(96);
        is("comes " + p + " in " + n, flame.comes(p % 12, p / 12, n), model.comes(p, n));
        is("over " + n, flame.over(n), model.over(n));
    }

    /** Of one drawn row of PLACES and six drawn THINGS. */
    private void state() {
        int row = 12 * below(rarely() ? 8 : 7);
        for (int p = row; p < row + 12; p++) {
            int[] wants = {".#+~".indexOf(model.kinds.charAt(p)), model.state[p], model.left[p], 0, model.sums(p, false), model.sums(p, true)};
            for (int i = 0; i < 24; i++) {
                wants[3] |= model.things[i].left() && model.things[i].place == p ? 1 << i : 0;
            }
            for (int what = 0; what < 6; what++) {
                is("placeIs " + p + ", " + what, flame.placeIs(p % 12, p / 12, what), wants[what]);
            }
        }
        int[] bytes = new int[24];
        for (int i = 0; i < 24; i++) {
            bytes[i] = model.things[i].gone ? 0 : model.things[i].value % 256;
        }
        for (int k = 0; k < 6; k++) {
            thingState(below(rarely() ? 24 : 6));
        }
        int[] wants = {model.minute, model.bits(false), model.bits(true), model.places(1), model.places(2), model.wind, model.rules.size(), 0, model.x, model.lost()};
        for (int what = 0; what < 10; what++) {
            is("count " + what, flame.count(what), wants[what]);
        }
        fed(bytes);
        is("check", flame.check(24), -1);
    }

    private void thingState(int i) {
        Model.Thing t = model.things[i];
        int paid = t.sum >= t.value ? t.value : (int) ((long) t.sum * t.sum / t.value);
        int[] wants = {t.place, t.value, t.sum, t.gone ? 1 : 0, paid};
        for (int what = 0; what < 5; what++) {
            is("thingIs " + i + ", " + what, flame.thingIs(i, what), t.told ? wants[what] : -1);
        }
    }
}
