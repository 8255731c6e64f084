import java.lang.reflect.Field;
import java.lang.reflect.Method;
import java.lang.reflect.Modifier;
import java.nio.charset.StandardCharsets;
import java.nio.file.Files;
import java.nio.file.Path;
import java.util.Arrays;
import java.util.TreeSet;
import java.util.regex.Matcher;
import java.util.regex.Pattern;

/** The public face, and what of LANGUAGE.md can be seen without reading the program. */
public final class FaceTest {
    private static final String FACE = "began(int,int)int breaks(int,int)int carried(int)int check(int)int comes(int,int,int)int count(int)int feed(int,int,int,int,int)int"
        + " getsOut(int)int insure(int,int,int)int keep()int law(int)int minutes(int)int orders(int)int over(int)int placeIs(int,int,int)int premium(int,int)int"
        + " roundFigure(int)int ruin(int,int,int)int safe(int)int seed(int)boolean steps(int,int)int thingIs(int,int)int town(int)int tried(int,int)int undo()boolean woods(int)int";

    public static void main(String[] args) throws Exception {
        Due due = new Due();
        face(due);
        names(due);
        source(due, Files.readString(Path.of("src/main/java/InsuredFlame.java"), StandardCharsets.ISO_8859_1));
        due.end();
    }

    private static String told(Method m) {
        StringBuilder text = new StringBuilder(m.getName()).append("(");
        for (Class<?> c : m.getParameterTypes()) {
            text.append(text.charAt(text.length() - 1) == '(' ? "" : ",").append(c.getName());
        }
        return text.append(")").append(m.getReturnType().getName()).toString();
    }

    private static void face(Due due) {
        TreeSet<String> wanted = new TreeSet<>(Arrays.asList(FACE.split(" ")));
        TreeSet<String> seen = new TreeSet<>();
        for (Method m : InsuredFlame.class.getDeclaredMethods()) {
            if (Modifier.isPublic(m.getModifiers())) {
                seen.add(told(m));
            } else {
                due.is(m.getName() + " is private", Modifier.isPrivate(m.getModifiers()), true);
            }
        }
        due.is("public methods " + seen, seen.equals(wanted), true);
        for (Field f : InsuredFlame.class.getDeclaredFields()) {
            boolean isFace = f.getName().equals("NONE") && Modifier.isPublic(f.getModifiers());
            due.is(f.getName() + " is private", isFace || Modifier.isPrivate(f.getModifiers()), true);
            due.is(f.getName() + " is no static state", !Modifier.isStatic(f.getModifiers()) || Modifier.isFinal(f.getModifiers()), true);
        }
        due.is("one constructor", InsuredFlame.class.getDeclaredConstructors().length, 1);
        due.is("public, final", InsuredFlame.class.getModifiers(), Modifier.PUBLIC | Modifier.FINAL);
    }

    private static void names(Due due) {
        TreeSet<String> open = new TreeSet<>();
        for (String method : FACE.split(" ")) {
            open.add(method.substring(0, method.indexOf('(')));
        }
        Class<?>[] inside = InsuredFlame.class.getDeclaredClasses();
        due.is("some twelve classes", inside.length < 12, true);
        for (Class<?> c : inside) {
            due.is(c + " is static", Modifier.isStatic(c.getModifiers()), true);
            long fields = Arrays.stream(c.getDeclaredFields()).filter(f -> !Modifier.isStatic(f.getModifiers())).count();
            due.is(c + " has at most twenty fields", fields <= 20, true);
            for (Method m : c.getDeclaredMethods()) {
                due.is(m + " has a name of its own", open.contains(m.getName()), false);
                due.is(m + " has at most seven parameters", m.getParameterCount() <= 7, true);
            }
        }
    }

    private static void source(Due due, String text) {
        String code = text.replaceAll("(?s)/\\*.*?\\*/", "").replaceAll("//[^\n]*", "").replaceAll("\"[^\"\n]*\"|'[^'\n]*'", "0");
        Matcher ruledOut = Pattern.compile("\\b(throw|try|catch|synchronized|assert|import|package|double|float|Object|System\\.(?!arraycopy\\b)\\w+|\\w+Exact|getClass|hashCode|toString)\\b|->|::|static \\{").matcher(code);
        for (; ruledOut.find();) {
            due.is("ruled out: " + ruledOut.group(), 1, 0);
        }
        due.is("signs 1 to 127", text.chars().allMatch(c -> c > 0 && c < 128), true);
        Matcher method = Pattern.compile("(?m)^( {4}| {8})(?!private static final class)[a-zA-Z].*\\) \\{\n((?:.*\n)*?)\\1\\}").matcher(text);
        int seen = 0;
        for (; method.find(); seen++) {
            due.is("sixty lines: " + method.group().lines().findFirst().orElse(""), method.group().lines().count() <= 60, true);
        }
        due.is("methods were seen", seen > 90, true);
    }
}
