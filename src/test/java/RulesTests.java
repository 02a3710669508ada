import java.io.IOException;
import java.lang.reflect.Constructor;
import java.lang.reflect.Field;
import java.lang.reflect.Method;
import java.lang.reflect.Modifier;
import java.nio.file.Files;
import java.nio.file.Path;
import java.util.Arrays;
import java.util.List;
import java.util.Set;
import java.util.TreeSet;
import java.util.regex.Matcher;
import java.util.regex.Pattern;

/** The face of the class, and those rules of LANGUAGE.md that its text or its members show. */
public final class RulesTests {
    private static final List<String> FACE = List.of(
        "int account(int,int)", "int weigh(int,int)", "int fund(int,int)", "int speak(int,int)",
        "long holds(int,int)", "long pot()", "int tick(int)", "long mark(int,int,int)",
        "int question(int,int,int,int,int)", "int call(int,int,int,int)", "int vote(int,int,int)",
        "int hide(int,int,long)", "int reveal(int,int,int,int)", "int count(int,int)", "int fallen(int,int)",
        "int winner(int)", "int passed(int)", "int run(int)", "int auction(int,int,int,int,int)",
        "int bid(int,int,int,int)", "int seal(int,int,long)", "int unseal(int,int,int,int)", "int take(int,int)",
        "int price(int)", "int won(int,int)");
    private static final List<String> FORBIDDEN = List.of("throw", "throws", "try", "catch", "finally", "assert",
        "synchronized", "import", "package", "protected", "native", "volatile", "double", "float", "->", "::", "@");
    private static final List<String> LIBRARY = List.of("Math.max", "Math.min", "System.arraycopy");
    private static final int MOST_LINES = 60;

    private static int wrong = 0;

    private static void must(boolean holds, String what) {
        if (!holds) {
            wrong++;
            System.out.println("broken: " + what);
        }
    }

    private static String signature(Method m) {
        StringBuilder s = new StringBuilder(m.getReturnType() + " " + m.getName() + "(");
        for (Class<?> c : m.getParameterTypes()) {
            s.append(s.charAt(s.length() - 1) == '(' ? "" : ",").append(c);
        }
        return s.append(')').toString();
    }

    private static void face() {
        Class<?> c = VoteAuctions.class;
        must(Modifier.isPublic(c.getModifiers()) && Modifier.isFinal(c.getModifiers()), "public final class");
        Set<String> open = new TreeSet<>();
        Set<String> names = new TreeSet<>();
        for (Method m : c.getDeclaredMethods()) {
            if (!Modifier.isPrivate(m.getModifiers())) {
                must(Modifier.isPublic(m.getModifiers()) && !Modifier.isStatic(m.getModifiers()), "public: " + m);
                open.add(signature(m));
                names.add(m.getName());
            }
        }
        must(open.equals(new TreeSet<>(FACE)), "the face is " + open);
        Constructor<?>[] made = c.getDeclaredConstructors();
        must(made.length == 1 && Modifier.isPublic(made[0].getModifiers()) && made[0].getParameterCount() == 0,
            "one public constructor without parameters");
        privateMembers(c, names);
        for (Class<?> inside : c.getDeclaredClasses()) {
            must(Modifier.isStatic(inside.getModifiers()) && !Modifier.isPublic(inside.getModifiers()),
                "static, not public: " + inside);
            privateMembers(inside, names);
        }
    }

    private static void privateMembers(Class<?> c, Set<String> publicNames) {
        int fields = 0;
        for (Field f : c.getDeclaredFields()) {
            must(Modifier.isPrivate(f.getModifiers()), "private: " + f);
            must(!Modifier.isStatic(f.getModifiers()) || Modifier.isFinal(f.getModifiers()), "final: " + f);
            fields += Modifier.isStatic(f.getModifiers()) ? 0 : 1;
        }
        must(fields <= 20, "some twenty fields: " + c);
        for (Method m : c.getDeclaredMethods()) {
            must(!Modifier.isPrivate(m.getModifiers()) || !publicNames.contains(m.getName()), "another name: " + m);
            must(m.getParameterCount() <= 7, "seven parameters: " + m);
        }
    }

    private static void text() throws IOException {
        String source = Files.readString(Path.of("src/main/java/VoteAuctions.java"));
        String code = source.replaceAll("(?s)/\\*.*?\\*/", "").replaceAll("//[^\n]*", "");
        for (String word : FORBIDDEN) {
            boolean isWord = Character.isLetter(word.charAt(0));
            Matcher m = Pattern.compile(isWord ? "\\b" + word + "\\b" : Pattern.quote(word)).matcher(code);
            must(!m.find(), "no " + word);
        }
        Matcher used = Pattern.compile("\\b[A-Z][a-z]+[.]\\w+").matcher(code);
        while (used.find()) {
            must(LIBRARY.contains(used.group()), "not in the library's list: " + used.group());
        }
        must(!code.contains("while (true)") && !code.contains("for (;;)"), "no loop without an end");
        must(!code.contains("\""), "no texts");
        must(source.chars().allMatch(c -> c < 128), "plain characters");
        shortMethods(source);
    }

    private static void shortMethods(String source) {
        List<String> lines = Arrays.asList(source.split("\n"));
        int start = -1;
        for (int i = 0; i < lines.size(); i++) {
            String line = lines.get(i);
            if (line.matches("( {4}| {8})(public|private) .*\\) \\{")) {
                start = i;
            } else if (start >= 0 && line.matches("( {4}| {8})}")
                && line.indexOf('}') == lines.get(start).indexOf('p')) {
                must(i - start < MOST_LINES, "a short method: " + lines.get(start).trim());
                start = -1;
            }
        }
    }

    public static void main(String[] args) throws IOException {
        face();
        text();
        System.out.println(wrong == 0 ? "the rules are kept" : wrong + " rules are broken");
        if (wrong != 0) {
            System.exit(1);
        }
    }
}
