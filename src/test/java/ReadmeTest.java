import java.io.IOException;
import java.lang.reflect.Method;
import java.nio.file.Files;
import java.nio.file.Path;
import java.util.regex.Matcher;
import java.util.regex.Pattern;

/** Each call that README.md shows answers what stands behind it there. */
public final class ReadmeTest extends Due {
    private static final Pattern CALL = Pattern.compile("hill\\.(\\w+)\\((.*?)\\);\\s+// (-?\\d+)\\b.*");
    /** README.md shows no fewer, so that none is passed over because it is written otherwise. */
    private static final int SHOWN = 29;

    public static void main(String[] args) throws IOException, ReflectiveOperationException {
        FelledByNames hill = new FelledByNames();
        int shown = 0;
        for (String line : Files.readAllLines(Path.of("README.md"))) {
            Matcher found = CALL.matcher(line);
            if (found.matches()) {
                due(line, answer(hill, found.group(1), found.group(2)), Integer.parseInt(found.group(3)));
                shown++;
            } else {
                due("written so that it is found: " + line, line.startsWith("hill.") ? 1 : 0, 0);
            }
        }
        due("calls that README.md shows", shown, SHOWN);
        end();
    }

    private static int answer(FelledByNames hill, String name, String arguments) throws ReflectiveOperationException {
        String[] written = arguments.isEmpty() ? new String[0] : arguments.split(", ");
        for (Method method : FelledByNames.class.getMethods()) {
            if (method.getName().equals(name) && method.getParameterCount() == written.length) {
                Object[] with = new Object[written.length];
                for (int i = 0; i < with.length; i++) {
                    boolean wide = method.getParameterTypes()[i] == long.class;
                    long value = Long.decode(written[i].replace("L", ""));
                    with[i] = wide ? (Object) value : (Object) (int) value;
                }
                return (int) method.invoke(hill, with);
            }
        }
        throw new NoSuchMethodException(name);
    }
}
