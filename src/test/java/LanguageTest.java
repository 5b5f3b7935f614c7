import java.io.IOException;
import java.lang.reflect.Constructor;
import java.lang.reflect.Field;
import java.lang.reflect.Method;
import java.lang.reflect.Modifier;
import java.nio.file.Files;
import java.nio.file.Path;
import java.util.Set;
import java.util.TreeSet;
import java.util.regex.Matcher;
import java.util.regex.Pattern;

/** The face of the class, and those rules of ../shared/LANGUAGE.md that its text shows. */
public final class LanguageTest {
    private static final Check CHECK = new Check("LanguageTest");
    private static final Path SOURCE = Path.of("src/main/java/PileCaps.java");
    private static final String FACE = "about(int,int)int change(int,int,int)int count(int)int drag(int,int)int"
        + " drive(int,int,int)int end(int)int layer(int,int,int)int least()int load(int,int,int,int)int noLoads(int)int"
        + " number(int,int)long over(int)int pile(int,int,int,int)int rule(int,int)int shares(int)int shift(int,int,int)int"
        + " whole(int,boolean)int";

    public static void main(String[] args) throws IOException {
        theFaceIsTheDocuments();
        noPrivateMethodBearsAPublicName();
        theTextKeepsToTheRules();
        fieldsAreFew();
        CHECK.end();
    }

    private static void yes(String what, boolean is) {
        CHECK.due(what, 1, is ? 1 : 0);
    }

    private static boolean hidden(int modifiers) {
        return Modifier.isPrivate(modifiers);
    }

    private static void theFaceIsTheDocuments() {
        yes("public and final", Modifier.isPublic(PileCaps.class.getModifiers()) && Modifier.isFinal(PileCaps.class.getModifiers()));
        Set<String> face = new TreeSet<>();
        for (Method m : PileCaps.class.getDeclaredMethods()) {
            if (!hidden(m.getModifiers())) {
                StringBuilder name = new StringBuilder(m.getName() + "(");
                for (Class<?> type : m.getParameterTypes()) {
                    name.append(name.charAt(name.length() - 1) == '(' ? "" : ",").append(type.getName());
                }
                face.add(name.append(")").append(m.getReturnType().getName()).toString());
                yes(m.getName() + " is public", Modifier.isPublic(m.getModifiers()));
            }
        }
        yes("the methods are " + face, String.join(" ", face).equals(FACE));
        Constructor<?>[] made = PileCaps.class.getDeclaredConstructors();
        yes("one constructor", made.length == 1 && Modifier.isPublic(made[0].getModifiers()) && made[0].getParameterCount() == 0);
        Set<String> constants = new TreeSet<>();
        for (Field f : PileCaps.class.getDeclaredFields()) {
            if (!hidden(f.getModifiers())) {
                constants.add(f.getName() + (Modifier.isStatic(f.getModifiers()) && Modifier.isFinal(f.getModifiers())));
            }
        }
        yes("the constants are " + constants, constants.toString().equals("[BADtrue, FULLtrue, NONEtrue, NOtrue]"));
    }

    private static void noPrivateMethodBearsAPublicName() {
        Set<String> open = new TreeSet<>();
        for (Method m : PileCaps.class.getDeclaredMethods()) {
            if (!hidden(m.getModifiers())) {
                open.add(m.getName());
            }
        }
        for (Method m : PileCaps.class.getDeclaredMethods()) {
            yes(m.getName() + " is no public name", !hidden(m.getModifiers()) || !open.contains(m.getName()));
        }
        for (Class<?> inside : PileCaps.class.getDeclaredClasses()) {
            yes(inside.getName() + " is static", Modifier.isStatic(inside.getModifiers()) || inside.isRecord());
            for (Method m : inside.getDeclaredMethods()) {
                yes(inside.getName() + "." + m.getName() + " is no public name", !open.contains(m.getName()));
            }
        }
    }

    private static void fieldsAreFew() {
        yes("some twelve classes", PileCaps.class.getDeclaredClasses().length < 12);
        for (Class<?> inside : PileCaps.class.getDeclaredClasses()) {
            int fields = 0;
            for (Field f : inside.getDeclaredFields()) {
                fields += Modifier.isStatic(f.getModifiers()) ? 0 : 1;
            }
            yes(inside.getName() + " has some twenty fields", fields <= 20);
        }
    }

    private static void theTextKeepsToTheRules() throws IOException {
        String text = Files.readString(SOURCE);
        String code = text.replaceAll("(?s)/\\*.*?\\*/", " ").replaceAll("//[^\n]*", " ");
        String[] words = {"throw", "throws", "try", "catch", "finally", "synchronized", "assert", "import", "package", "float",
            "double", "Object", "System", "Arrays", "Thread", "Random", "instanceof", "protected", "volatile", "native",
            "[A-Za-z]*Exact", "hashCode", "toString", "equals", "getClass"};
        for (String word : words) {
            yes("the code has no " + word, !Pattern.compile("\\b" + word + "\\b").matcher(code).find());
        }
        yes("no lambda, no method reference", !code.contains("->") && !code.contains("::"));
        yes("signs 1 to 127 alone", text.chars().allMatch(sign -> sign > 0 && sign < 128));
        yes("no long line", text.lines().allMatch(line -> line.length() <= 120));
        Matcher made = Pattern.compile("\\bnew\\b").matcher(code);
        int last = -1;
        while (made.find()) {
            last = made.start();
            String line = code.substring(code.lastIndexOf('\n', last) + 1, code.indexOf('\n', last));
            yes("made with the object alone: " + line.trim(), line.matches("\\s+(private final .*|\\w+ = new \\w+\\(\\w*\\);)"));
        }
        yes("something is made", last > 0);
    }
}
