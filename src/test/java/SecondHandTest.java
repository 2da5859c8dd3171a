import java.lang.reflect.InvocationTargetException;
import java.lang.reflect.Method;
import java.lang.reflect.Modifier;
import java.nio.file.Files;
import java.nio.file.Path;
import java.util.HashMap;
import java.util.Map;
import java.util.NoSuchElementException;

/**
 * Runs of calls with the answers of another writing of the document, made in Python by another session, which had read the
 * class but not Oracle. The answers are kept as they were, so a slip made in the class and in Oracle at once is still seen.
 * A row is "new", or a call with its arguments, " = " and its answer (booleans 1, 0; I, N: the exceptions of look).
 */
public final class SecondHandTest {
    private final Map<String, Method> face = new HashMap<>();
    private BeamClocks x = new BeamClocks();

    private SecondHandTest() {
        for (Method m : BeamClocks.class.getDeclaredMethods()) {
            if (Modifier.isPublic(m.getModifiers())) {
                face.put(m.getName(), m);
            }
        }
    }

    public static void main(String[] args) throws Exception {
        Path runs = Path.of(args.length > 0 ? args[0] : ".", "src/test/runs/second-hand.txt");
        SecondHandTest test = new SecondHandTest();
        int row = 0;
        for (String line : Files.readAllLines(runs)) {
            row++;
            test.play(line, row);
        }
        Check.end();
    }

    private void play(String line, int row) throws Exception {
        if (line.equals("new")) {
            x = new BeamClocks();
            return;
        }
        int sign = line.indexOf(" = ");
        String want = line.substring(sign + 3);
        String got = answer(line.substring(0, sign).split(" "));
        Check.yes("row " + row + ": " + line + ", not " + got, got.equals(want));
    }

    private String answer(String[] call) throws Exception {
        Method method = face.get(call[0]);
        Class<?>[] types = method.getParameterTypes();
        Object[] arguments = new Object[types.length];
        for (int i = 0; i < types.length; i++) {
            int number = Integer.parseInt(call[i + 1]);
            arguments[i] = types[i] == boolean.class ? (Object) (number == 1) : (Object) number;
        }
        try {
            Object answer = method.invoke(x, arguments);
            return answer instanceof Boolean ? (Boolean) answer ? "1" : "0" : answer.toString();
        } catch (InvocationTargetException e) {
            Class<?> kind = e.getCause().getClass();
            return kind == IndexOutOfBoundsException.class ? "I" : kind == NoSuchElementException.class ? "N" : kind.getName();
        }
    }
}
