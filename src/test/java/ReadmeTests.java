import java.io.IOException;
import java.lang.reflect.Method;
import java.nio.ByteBuffer;
import java.nio.IntBuffer;
import java.nio.charset.StandardCharsets;
import java.nio.file.Files;
import java.nio.file.Path;
import java.util.Arrays;
import java.util.regex.Matcher;
import java.util.regex.Pattern;

/** What README.md shows is so: each line "x.call(..); // answer: what it is" of it is asked, in its order, of one object. */
public final class ReadmeTests {
    private static final Pattern SHOWN = Pattern.compile("^(?:x\\.(\\w+)\\(([^)]*)\\)|tell\\(x, text\\)); // (-?\\w+)(?:: .*)?$");
    private static int wrong = 0;
    private static int asked = 0;

    private static int tell(FedStatues x, String text) {
        byte[] t = Arrays.copyOf(text.getBytes(StandardCharsets.ISO_8859_1), (text.length() + 19) / 20 * 20);
        IntBuffer n = ByteBuffer.wrap(t).asIntBuffer();
        while (n.hasRemaining()) {
            x.feed(n.get(), n.get(), n.get(), n.get(), n.get());
        }
        x.end(text.length());
        return x.city();
    }

    private static String answer(FedStatues x, String call, String given) throws ReflectiveOperationException {
        String[] parts = given.isEmpty() ? new String[0] : given.split(", ");
        Class<?>[] types = new Class<?>[parts.length];
        Object[] values = new Object[parts.length];
        Arrays.fill(types, int.class);
        for (int i = 0; i < parts.length; i++) {
            values[i] = parts[i].equals("NONE") ? FedStatues.NONE : Integer.decode(parts[i]);
        }
        Method method = FedStatues.class.getMethod(call, types);
        return method.invoke(x, values).toString();
    }

    private static String between(String page, String open) {
        int from = page.indexOf(open) + open.length();
        return page.substring(from, page.indexOf("```", from));
    }

    public static void main(String[] args) throws IOException, ReflectiveOperationException {
        String page = Files.readString(Path.of("README.md"));
        FedStatues x = new FedStatues();
        for (String line : page.split("\n")) {
            Matcher m = SHOWN.matcher(line);
            if (m.matches()) {
                String got = m.group(1) == null ? "" + tell(x, between(page, "```text\n")) : answer(x, m.group(1), m.group(2));
                asked++;
                if (!got.equals(m.group(3))) {
                    wrong++;
                    System.out.println(line + " but it answered " + got);
                }
            }
        }
        System.out.println(asked + " answers of README.md asked for, " + wrong + " not as due");
        if (wrong != 0 || asked < 20) {
            System.exit(1);
        }
    }
}
