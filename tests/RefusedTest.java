import java.util.LinkedHashMap;
import java.util.Map;

/** A call that is refused changes nothing, and one that only asks doesn't either, of all promises. */
public final class RefusedTest {
    private interface Call {
        int on(InsuredFlame x);
    }

    private static final int[] WRONG = {-1, Integer.MIN_VALUE, Integer.MAX_VALUE};
    private static final String NEW_LAW = "s1+2(n<3);x(w=9&m>1)";

    public static void main(String[] args) {
        Due due = new Due();
        String before = state(rich());
        tapeCalls(due, before);
        otherCalls(due, before);
        asking(due, before);
        due.end();
    }

    /** Something of all there is: fire, BURNT ones, THINGS, a LAW, what was KEPT, and a tape of 40 bytes. */
    private static InsuredFlame rich() {
        InsuredFlame x = Due.flame("5#/#+~.#/5#", "*2,0;0@2,0;0=300;1@3,0;1=40;1+30;2@0,1;2=7;3@2,1;!3", "s8(d<3);b5+n(1=1);x(w=0)");
        x.minutes(2);
        x.keep();
        x.minutes(2);
        Due.fed(x, NEW_LAW + ";b1(1=1)");
        return x;
    }

    /** All that can be asked of the PLACES in use, then what the tape holds, then what was KEPT. */
    private static String state(InsuredFlame x) {
        StringBuilder all = new StringBuilder();
        asks(x, all);
        for (int p = 0; p < 36; p++) {
            for (int what = 0; what < 6; what++) {
                all.append(x.placeIs(p % 12, p / 12, what)).append(' ');
            }
        }
        all.append("tape ").append(x.law(NEW_LAW.length())).append(' ');
        asks(x, all);
        all.append("kept ").append(x.undo()).append(' ');
        asks(x, all);
        return all.toString();
    }

    private static void asks(InsuredFlame x, StringBuilder all) {
        for (int what = 0; what < 10; what++) {
            all.append(x.count(what)).append(' ');
        }
        for (int what = 0; what < 5; what++) {
            all.append(x.tried(9, what)).append(' ');
            for (int i = 0; i < 4; i++) {
                all.append(x.thingIs(i, what)).append(' ');
            }
        }
    }

    private static void refused(Due due, String before, Map<String, Call> calls, int answer) {
        calls.forEach((name, call) -> {
            InsuredFlame x = rich();
            due.is(name, call.on(x), answer);
            due.is(name + " changes nothing", state(x).equals(before), true);
        });
    }

    private static void tapeCalls(Due due, String before) {
        due.sentence("a call that is refused (NONE) changes nothing, and its tape stays: law, town, orders, insure, ruin, carried, premium");
        Map<String, Call> calls = new LinkedHashMap<>();
        for (int n : new int[] {0, 41, 121, 241, WRONG[0], WRONG[1], WRONG[2]}) {
            calls.put("law " + n, x -> x.law(n));
            calls.put("town " + n, x -> x.town(n));
            calls.put("orders " + n, x -> x.orders(n));
        }
        for (int n : new int[] {0, 11, WRONG[0], WRONG[1], WRONG[2]}) {
            calls.put("insure " + n, x -> x.insure(n, 5, 0));
            calls.put("carried " + n, x -> x.carried(n));
        }
        for (int n : new int[] {0, 9, WRONG[0], WRONG[1], WRONG[2]}) {
            calls.put("premium " + n, x -> x.premium(n, 0));
            calls.put("ruin " + n, x -> x.ruin(n, 0, 0));
        }
        for (int wrong : WRONG) {
            calls.put("insure for " + wrong, x -> x.insure(1, wrong, 0));
            calls.put("insure what " + wrong, x -> x.insure(1, 5, wrong));
            calls.put("ruin first " + wrong, x -> x.ruin(2, wrong, 0));
            calls.put("ruin what " + wrong, x -> x.ruin(2, 0, wrong));
            calls.put("premium what " + wrong, x -> x.premium(1, wrong));
        }
        calls.put("ruin 1", x -> x.ruin(1, 0, 0));
        calls.put("ruin first 2 of 2", x -> x.ruin(2, 2, 0));
        calls.put("insure for 2551", x -> x.insure(1, 2551, 0));
        calls.put("insure what 3", x -> x.insure(1, 0, 3));
        calls.put("ruin what 2", x -> x.ruin(2, 0, 2));
        calls.put("premium what 2", x -> x.premium(1, 2));
        refused(due, before, calls, -1);
        due.sentence("promise 26: check that is refused (-2) changes nothing, and its tape stays");
        Map<String, Call> checks = new LinkedHashMap<>();
        for (int n : new int[] {25, 41, WRONG[0], WRONG[1], WRONG[2]}) {
            checks.put("check " + n, x -> x.check(n));
        }
        refused(due, before, checks, -2);
    }

    private static void otherCalls(Due due, String before) {
        due.sentence("a call that is refused (NONE) changes nothing: minutes, tried, comes, over, began, and what only asks");
        Map<String, Call> calls = new LinkedHashMap<>();
        for (int n : new int[] {0, 101, WRONG[0], WRONG[1], WRONG[2]}) {
            calls.put("minutes " + n, x -> x.minutes(n));
            calls.put("tried " + n, x -> x.tried(n, 0));
            calls.put("comes in " + n, x -> x.comes(4, 2, n));
            calls.put("over " + n, x -> x.over(n));
        }
        for (int wrong : new int[] {96, WRONG[0], WRONG[1], WRONG[2]}) {
            calls.put("tried what " + wrong, x -> x.tried(9, wrong));
            calls.put("comes to " + wrong, x -> x.comes(wrong, 0, 9));
            calls.put("comes to y " + wrong, x -> x.comes(0, wrong, 9));
            calls.put("placeIs " + wrong, x -> x.placeIs(wrong, 0, 0));
            calls.put("placeIs y " + wrong, x -> x.placeIs(0, wrong, 0));
            calls.put("placeIs what " + wrong, x -> x.placeIs(0, 0, wrong));
            calls.put("thingIs " + wrong, x -> x.thingIs(wrong, 0));
            calls.put("thingIs what " + wrong, x -> x.thingIs(0, wrong));
            calls.put("steps " + wrong, x -> x.steps(wrong, 0));
            calls.put("steps to " + wrong, x -> x.steps(0, wrong));
            calls.put("began " + wrong, x -> x.began(wrong, 0));
            calls.put("began what " + wrong, x -> x.began(1, wrong));
            calls.put("breaks " + wrong, x -> x.breaks(wrong, 0));
            calls.put("breaks to " + wrong, x -> x.breaks(0, wrong));
            calls.put("getsOut " + wrong, x -> x.getsOut(wrong));
            calls.put("safe " + wrong, x -> x.safe(wrong));
            calls.put("woods " + wrong, x -> x.woods(wrong));
            calls.put("count " + wrong, x -> x.count(wrong));
        }
        calls.put("roundFigure 0", x -> x.roundFigure(0));
        calls.put("roundFigure 1000000", x -> x.roundFigure(1000000));
        refused(due, before, calls, -1);
        due.sentence("a call that is refused (false) changes nothing: seed");
        Map<String, Call> seeds = new LinkedHashMap<>();
        for (int seed : new int[] {65536, WRONG[0], WRONG[1], WRONG[2]}) {
            seeds.put("seed " + seed, x -> x.seed(seed) ? 1 : 0);
        }
        refused(due, before, seeds, 0);
    }

    private static void asking(Due due, String before) {
        due.sentence("nothing is changed by what only asks");
        Map<String, Call> calls = new LinkedHashMap<>();
        calls.put("tried", x -> x.tried(50, 2));
        calls.put("comes", x -> x.comes(4, 2, 50));
        calls.put("over", x -> x.over(50));
        calls.put("placeIs", x -> x.placeIs(2, 0, 4));
        calls.put("thingIs", x -> x.thingIs(1, 4));
        calls.put("steps", x -> x.steps(0, 28));
        calls.put("began", x -> x.began(3, 0));
        calls.put("breaks", x -> x.breaks(0, 28));
        calls.put("getsOut", x -> x.getsOut(15));
        calls.put("safe", x -> x.safe(0));
        calls.put("roundFigure", x -> x.roundFigure(77));
        calls.put("woods", x -> x.woods(1));
        calls.put("count", x -> x.count(9));
        calls.forEach((name, call) -> {
            InsuredFlame x = rich();
            int first = call.on(x);
            due.is(name + " again", call.on(x), first);
            due.is(name + " changes nothing", state(x).equals(before), true);
        });
    }
}
