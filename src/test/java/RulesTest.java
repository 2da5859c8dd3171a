import java.lang.reflect.Array;
import java.lang.reflect.Field;
import java.lang.reflect.Method;
import java.lang.reflect.Modifier;
import java.nio.file.Files;
import java.nio.file.Path;
import java.util.Arrays;
import java.util.IdentityHashMap;
import java.util.List;
import java.util.Map;
import java.util.TreeSet;
import java.util.regex.Matcher;
import java.util.regex.Pattern;

/** The face of the document, and those rules of LANGUAGE.md that can be seen from outside. */
public final class RulesTest {
    private static final List<String> FACE = Arrays.asList(
            "int feed(int,int,int,int,int)", "int text(int)", "int fault(int)", "int named(int,int)",
            "int look(int,int)", "int reach(int,int)", "int pull(int)", "int steps(int)", "int was(int,int)",
            "int stroke(int,int)", "int apart(int,int)", "int since(int,int,int,boolean)", "int groups(int)",
            "int group(int,int)", "int falls()", "int fall(int)", "boolean hang(int,int,int)", "boolean stop(int)",
            "int undo()", "int run(int,int,int)", "int own(int,int)", "int least(int,int,int,int)",
            "int mend(int,int,int)", "int order(int,int,int,int)", "int due(int,int)", "int gain(int,int,int)",
            "int heard(int,int,boolean)", "int strike(int)", "boolean known(int)", "int fits()",
            "int tried(int,int,int,int)", "int chance(int,int,int)", "int keep()", "int back()", "int count(int)");

    public static void main(String[] args) throws Exception {
        face();
        names();
        room();
        source(Path.of(args.length > 0 ? args[0] : ".", "src/main/java/BeamClocks.java"));
        Check.end();
    }

    private static void face() throws Exception {
        Class<?> c = BeamClocks.class;
        Check.yes("public and final", Modifier.isPublic(c.getModifiers()) && Modifier.isFinal(c.getModifiers()));
        TreeSet<String> found = new TreeSet<>();
        for (Method m : c.getDeclaredMethods()) {
            if (!Modifier.isPrivate(m.getModifiers()) && !m.isSynthetic()) {
                StringBuilder s = new StringBuilder(m.getReturnType() + " " + m.getName() + "(");
                for (int i = 0; i < m.getParameterCount(); i++) {
                    s.append(i == 0 ? "" : ",").append(m.getParameterTypes()[i]);
                }
                found.add(s.append(")").toString());
            }
        }
        Check.yes("the methods of the face and no others: " + found, found.equals(new TreeSet<>(FACE)));
        int constants = 0;
        for (Field f : c.getDeclaredFields()) {
            constants += Modifier.isPrivate(f.getModifiers()) ? 0 : 1;
        }
        Check.same("two constants are seen", constants, 2);
        Check.same("NONE", BeamClocks.NONE, -1);
        Check.same("SPENT", BeamClocks.SPENT, -2);
        Check.same("one constructor", c.getDeclaredConstructors().length, 1);
        Check.yes("it is public", Modifier.isPublic(c.getDeclaredConstructor().getModifiers()));
        Check.same("look tells what it throws", c.getMethod("look", int.class, int.class).getExceptionTypes().length, 2);
    }

    private static void names() {
        for (Class<?> inner : BeamClocks.class.getDeclaredClasses()) {
            Check.yes(inner + " is static", Modifier.isStatic(inner.getModifiers()));
            for (Method m : inner.getDeclaredMethods()) {
                for (String f : FACE) {
                    Check.no(inner + " has a method with a name of the face: " + f, f.contains(" " + m.getName() + "("));
                }
                Check.yes(m + " has seven parameters at most", m.getParameterCount() <= 7);
            }
            int fields = 0;
            for (Field f : inner.getDeclaredFields()) {
                fields += Modifier.isStatic(f.getModifiers()) ? 0 : 1;
            }
            Check.yes(inner + " has some twenty fields at most", fields <= 20);
        }
        Check.yes("some twelve classes at most", BeamClocks.class.getDeclaredClasses().length < 12);
    }

    /** All that one object holds stays far below the room of a run, and no call lets it grow. */
    private static void room() throws Exception {
        BeamClocks x = new BeamClocks();
        long[] ahead = size(x, new IdentityHashMap<>());
        Check.yes("objects " + ahead[0], ahead[0] < 200);
        Check.yes("elements " + ahead[1], ahead[1] < 60000);
        Check.tell(x, "beam b 9 1;clock x b 0 1 50;clock y b 1 1 60;law go speed;may m hang x b 9;");
        x.steps(500);
        x.hang(0, 0, 7);
        x.keep();
        x.heard(1, 0, true);
        x.fits();
        x.least(3, 60, 0, 0);
        x.order(100, 5, 5, 0);
        long[] behind = size(x, new IdentityHashMap<>());
        Check.same("no more objects", behind[0], ahead[0]);
        Check.same("no more elements", behind[1], ahead[1]);
    }

    private static long[] size(Object o, Map<Object, Object> seen) throws Exception {
        if (o == null || o instanceof String || seen.put(o, o) != null) {
            return new long[] {0, 0};
        }
        if (o.getClass().isArray()) {
            return new long[] {1, Array.getLength(o)};
        }
        long[] sum = {1, 0};
        for (Field f : o.getClass().getDeclaredFields()) {
            if (!Modifier.isStatic(f.getModifiers())) {
                sum[1]++;
                if (!f.getType().isPrimitive()) {
                    f.setAccessible(true);
                    long[] part = size(f.get(o), seen);
                    sum[0] += part[0];
                    sum[1] += part[1];
                }
            }
        }
        return sum;
    }

    private static void source(Path path) throws Exception {
        String all = Files.readString(path);
        String code = all.replaceAll("(?s)/\\*.*?\\*/", "").replaceAll("//[^\n]*", "");
        String bare = code.replaceAll("\"[^\"]*\"", "\"\"");
        for (String word : new String[] {"->", "::", "try", "catch", "finally", "synchronized", "assert", "lambda",
            "package", "Exact", "Object", "float", "double", "instanceof", "@", "var ", "Random", "Thread", "native"}) {
            Check.no("the source has " + word, Pattern.compile(Character.isLetter(word.charAt(0))
                    ? "\\b" + word + "\\b" : Pattern.quote(word)).matcher(bare).find());
        }
        Matcher imports = Pattern.compile("import ([^;]*);").matcher(bare);
        while (imports.find()) {
            Check.yes("import " + imports.group(1), imports.group(1).equals("java.util.NoSuchElementException"));
        }
        Check.no("a static block", Pattern.compile("static\\s*\\{").matcher(bare).find());
        Check.no("objects made outside constructors and fields", madeElsewhere(bare));
        Check.no("a text joined by +", Pattern.compile("\"\\s*\\+|\\+\\s*\"").matcher(bare).find());
        for (char sign : all.toCharArray()) {
            if (sign > 126 || sign < 32 && sign != '\n') {
                Check.same("a sign of the source", sign, ' ');
            }
        }
        methodsAreShort(all);
    }

    private static boolean madeElsewhere(String bare) {
        boolean found = false;
        for (String line : bare.split("\n")) {
            boolean made = line.contains("new ") && !line.contains("throw new ");
            found |= made && !line.contains("private final") && !line.matches(" {8}(    )?[a-zA-Z]+ = new .*");
        }
        return found;
    }

    private static void methodsAreShort(String all) {
        String[] lines = all.split("\n");
        for (int i = 0; i < lines.length; i++) {
            Matcher m = Pattern.compile("^( {4}| {8})(?! )[^=]*\\) (throws [^{]*)?\\{$").matcher(lines[i]);
            if (m.find()) {
                int end = i;
                while (end < lines.length && !lines[end].equals(m.group(1) + "}")) {
                    end++;
                }
                Check.yes("some sixty lines at most: " + lines[i].trim(), end - i <= 60);
            }
        }
    }
}
