import java.io.IOException;
import java.lang.reflect.Constructor;
import java.lang.reflect.Field;
import java.lang.reflect.Method;
import java.lang.reflect.Modifier;
import java.nio.file.Files;
import java.nio.file.Path;
import java.util.Arrays;
import java.util.HashSet;
import java.util.Set;
import java.util.TreeSet;
import java.util.regex.Matcher;
import java.util.regex.Pattern;

/** The face of the document, and what can be seen of the rules of LANGUAGE.md from outside. */
public final class FaceTests {
    private static final String FACE = """
        int feed(int,int,int,int,int)
        boolean end(int)
        int city()
        int fault(int)
        int has(int)
        int letter(int,int,int)
        int statue(int,int)
        int dish(int,int)
        int deed(int,int)
        int eater(int,int)
        int plate(int,int)
        int meal(int,int)
        int later(int,int)
        int broken(int)
        int round(int)
        int carriers()
        int keep(int,int)
        int feeds(int,int)
        int seen()
        int came(int)
        int rest(int)
        int days(int)
        int chance(int)
        int give(int)
        int change(int,int)
        boolean undo()
        boolean seed(int)
        int kept(int,int)
        int image()
        int octet(int)
        boolean on()
        int status(int)
        """;
    private static int wrong = 0;

    private static void must(boolean is, String what) {
        if (!is) {
            wrong++;
            System.out.println("not so: " + what);
        }
    }

    private static String shown(Method m) {
        StringBuilder s = new StringBuilder(m.getReturnType() + " " + m.getName() + "(");
        for (int i = 0; i < m.getParameterCount(); i++) {
            s.append(i > 0 ? "," : "").append(m.getParameterTypes()[i]);
        }
        return s.append(")").toString();
    }

    private static void face() {
        Class<?> c = FedStatues.class;
        must(Modifier.isPublic(c.getModifiers()) && Modifier.isFinal(c.getModifiers()), "public and final");
        must(c.getSuperclass() == Object.class && c.getInterfaces().length == 0, "of no other class");
        Constructor<?>[] made = c.getDeclaredConstructors();
        must(made.length == 1 && Modifier.isPublic(made[0].getModifiers()) && made[0].getParameterCount() == 0, "one constructor");
        Set<String> want = new TreeSet<>(Arrays.asList(FACE.strip().split("\n")));
        Set<String> got = new TreeSet<>();
        Set<String> names = new HashSet<>();
        for (Method m : c.getDeclaredMethods()) {
            if (!Modifier.isPrivate(m.getModifiers())) {
                must(Modifier.isPublic(m.getModifiers()) && !Modifier.isStatic(m.getModifiers()), shown(m) + " is public");
                got.add(shown(m));
                names.add(m.getName());
            }
        }
        must(want.equals(got), "the methods are " + want + ", not " + got);
        for (Method m : c.getDeclaredMethods()) {
            must(!Modifier.isPrivate(m.getModifiers()) || !names.contains(m.getName()), "private " + m.getName());
        }
        for (Field f : c.getDeclaredFields()) {
            must(Modifier.isPrivate(f.getModifiers()) || f.getName().equals("NONE"), "field " + f.getName());
        }
        inside(c, names);
    }

    private static void inside(Class<?> c, Set<String> names) {
        int classes = 1;
        for (Class<?> inner : c.getDeclaredClasses()) {
            classes++;
            must(Modifier.isStatic(inner.getModifiers()), inner + " is static");
            must(!Modifier.isPublic(inner.getModifiers()) && !Modifier.isProtected(inner.getModifiers()), inner + " is hidden");
            must(inner.getDeclaredClasses().length == 0, inner + " has no classes");
            int fields = 0;
            for (Field f : inner.getDeclaredFields()) {
                boolean isStatic = Modifier.isStatic(f.getModifiers());
                fields += isStatic ? 0 : 1;
                must(!isStatic || Modifier.isFinal(f.getModifiers()), inner + "." + f.getName() + " is final");
            }
            must(fields <= 20, inner + " has " + fields + " fields");
            for (Method m : inner.getDeclaredMethods()) {
                must(!names.contains(m.getName()), inner + "." + m.getName() + " bears a public name");
                must(m.getParameterCount() <= 7, inner + "." + m.getName() + " takes too much");
            }
        }
        must(classes <= 12, classes + " classes");
    }

    private static void source() throws IOException {
        String text = Files.readString(Path.of("src/main/java/FedStatues.java"));
        must(text.chars().allMatch(ch -> ch == 10 || ch >= 32 && ch < 127), "plain signs alone");
        String bare = text.replaceAll("(?s)/\\*.*?\\*/", "").replaceAll("//[^\n]*", "");
        String[] never = {"\\bthrow\\b", "\\bthrows\\b", "\\btry\\b", "\\bcatch\\b", "\\bassert\\b", "\\bsynchronized\\b", "->",
            "::", "Exact\\b", "\\bpackage\\b", "\\bequals\\b", "\\bhashCode\\b", "\\btoString\\b", "\\bRandom\\b", "\\bThread\\b",
            "System\\.(?!arraycopy)", "Arrays\\.(?!fill|copyOf)", "\"\\s*\\+", "\\+\\s*\"", "\\bvar\\b", "static\\s*\\{"};
        for (String word : never) {
            Matcher m = Pattern.compile(word).matcher(bare);
            must(!m.find(), "no " + word);
        }
        Matcher imports = Pattern.compile("import ([^;]+);").matcher(bare);
        while (imports.find()) {
            must(imports.group(1).equals("java.util.Arrays"), "import " + imports.group(1));
        }
        methodsAreShort(text);
    }

    private static void methodsAreShort(String text) {
        String[] lines = text.split("\n");
        Pattern head = Pattern.compile("^( {4}| {8})\\S.*\\) \\{$");
        for (int i = 0; i < lines.length; i++) {
            Matcher m = head.matcher(lines[i]);
            if (m.find()) {
                int end = i;
                while (end < lines.length && !lines[end].equals(m.group(1) + "}")) {
                    end++;
                }
                must(end - i <= 60, "a method of " + (end - i) + " lines: " + lines[i].strip());
            }
        }
    }

    public static void main(String[] args) throws IOException {
        face();
        source();
        System.out.println(wrong == 0 ? "the face is as due" : wrong + " things are not as due");
        if (wrong != 0) {
            System.exit(1);
        }
    }
}
