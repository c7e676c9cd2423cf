import java.io.IOException;
import java.lang.reflect.InvocationTargetException;
import java.lang.reflect.Method;
import java.nio.file.Files;
import java.nio.file.Path;

/** Makes calls that are told as text, as in the document and in README.md, and compares their answers. */
final class Told {
    private Told() {
    }

    static String read(String file) throws IOException {
        return Files.readString(Path.of(file));
    }

    /** The arguments stand as in Java, the answer as Java prints it, or as "throws" and an exception's name. */
    static void due(String where, GalleonWave sea, String name, String arguments, String want) {
        String call = where + ": " + name + "(" + arguments + ")";
        String got = answer(sea, name, arguments.isBlank() ? new String[0] : arguments.strip().split("\\s*,\\s*"));
        Check.due(call + " = " + got + ", told is " + want + ":", got.equals(want), true);
    }

    private static String answer(GalleonWave sea, String name, String[] arguments) {
        Method called = find(name, arguments.length);
        if (called == null) {
            return "no such call";
        }
        Object[] values = new Object[arguments.length];
        for (int i = 0; i < values.length; i++) {
            values[i] = value(arguments[i], called.getParameterTypes()[i]);
        }
        try {
            return String.valueOf(called.invoke(sea, values));
        } catch (InvocationTargetException e) {
            return "throws " + e.getCause().getClass().getSimpleName();
        } catch (IllegalAccessException e) {
            return "not to be called";
        }
    }

    private static Method find(String name, int arguments) {
        for (Method method : GalleonWave.class.getMethods()) {
            if (method.getName().equals(name) && method.getParameterCount() == arguments) {
                return method;
            }
        }
        return null;
    }

    private static Object value(String text, Class<?> type) {
        if (type == char.class) {
            return text.matches("'.'") ? text.charAt(1) : (char) 0;
        }
        if (type == boolean.class) {
            return text.equals("true");
        }
        return Integer.parseInt(text);
    }
}
