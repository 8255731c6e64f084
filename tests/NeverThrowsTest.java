import java.lang.reflect.InvocationTargetException;
import java.lang.reflect.Method;
import java.util.ArrayList;
import java.util.Comparator;
import java.util.List;
import java.util.Random;

/** No call throws, whatever it is given; and what is refused changes nothing. */
public final class NeverThrowsTest {
    private static final int[] EDGES = {0, 1, 2, 3, 5, 6, 7, 8, 10, 11, 12, 20, 23, 24, 25, 60, 61, 95, 96, 100, 101, 120, 121, 240, 241, 260, 2550, 2551, 65535, 65536, 999999, 1000000, -1, -2, Integer.MAX_VALUE, Integer.MIN_VALUE, 1 << 30};
    private static final String[] SIGNS = {"#.+~/23456789", "0123,=+@*~!;", "bsxpmnvidgtw0123[]()!&|<>=;+-*/%", "s1(=)!(;x"};

    public static void main(String[] args) throws Exception {
        Due due = new Due();
        List<Method> methods = new ArrayList<>();
        for (Method m : InsuredFlame.class.getDeclaredMethods()) {
            if (java.lang.reflect.Modifier.isPublic(m.getModifiers())) {
                methods.add(m);
            }
        }
        methods.sort(Comparator.comparing(Method::getName));
        for (int run = 0; run < 400; run++) {
            calls(due, methods, new Random(run), run);
        }
        refusals(due);
        due.end();
    }

    private static void calls(Due due, List<Method> methods, Random random, int run) throws IllegalAccessException {
        InsuredFlame x = new InsuredFlame();
        Due.town(x, "9#3#/4#~+6#/9#3#/9#3#");
        Due.law(x, "s3+n*2(p/m>d|w%v=i);b9-t(g<3);x(!(w>2|p%0=0))");
        Due.orders(x, "*0,0;*5,2;0@1,0;0=9;1@2,0;1+5");
        for (int k = 0; k < 400; k++) {
            Method m = methods.get(random.nextInt(methods.size()));
            Object[] given = new Object[m.getParameterCount()];
            String signs = SIGNS[random.nextInt(SIGNS.length)];
            for (int a = 0; a < given.length; a++) {
                given[a] = m.getName().equals("feed") ? word(random, signs) : random.nextInt(4) == 0 ? EDGES[random.nextInt(EDGES.length)] : random.nextInt(20);
            }
            try {
                m.invoke(x, given);
            } catch (InvocationTargetException e) {
                due.is("run " + run + ": " + m.getName() + " threw " + e.getCause(), 1, 0);
            }
        }
        due.is("a run came to its end", true, true);
    }

    private static int word(Random random, String signs) {
        int word = 0;
        for (int k = 0; k < 4; k++) {
            int sign = random.nextInt(40) == 0 ? random.nextInt(256) : signs.charAt(random.nextInt(signs.length()));
            word = word << 8 | sign;
        }
        return word;
    }

    private static void refusals(Due due) {
        InsuredFlame x = new InsuredFlame();
        Due.town(x, "4#");
        Due.law(x, "s5(1=1)");
        Due.orders(x, "*0,0;0@1,0;0=9");
        x.minutes(1);
        String before = state(x);
        x.law(1);
        x.town(1);
        x.orders(1);
        x.minutes(0);
        x.minutes(101);
        x.tried(0, 0);
        x.seed(-1);
        x.seed(65536);
        x.undo();
        Due.law(x, "s0(1=1);");
        Due.town(x, "3.4");
        Due.orders(x, "~0,0;0=1;0@2,0;!3;*0,0");
        due.is("as it was", before.equals(state(x)), true);
    }

    private static String state(InsuredFlame x) {
        StringBuilder all = new StringBuilder();
        for (int p = 0; p < 24; p++) {
            for (int what = 0; what < 6; what++) {
                all.append(x.placeIs(p % 12, p / 12, what)).append(' ');
            }
        }
        for (int what = 0; what < 10; what++) {
            all.append(what == 7 ? 0 : x.count(what)).append(' ');
        }
        for (int what = 0; what < 5; what++) {
            all.append(x.thingIs(0, what)).append(' ').append(x.tried(9, what)).append(' ');
        }
        return all.toString();
    }
}
