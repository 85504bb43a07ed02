import java.lang.reflect.Constructor;
import java.lang.reflect.Field;
import java.lang.reflect.Method;
import java.lang.reflect.Modifier;
import java.nio.charset.StandardCharsets;
import java.nio.file.Files;
import java.nio.file.Path;
import java.util.ArrayList;
import java.util.List;
import java.util.Set;
import java.util.TreeSet;
import java.util.regex.Matcher;
import java.util.regex.Pattern;

/** The face of the class, by the document, and such rules of LANGUAGE.md as can be read off its text. */
public final class LanguageTest {
    private static final Check check = new Check();

    public static void main(String[] args) throws Exception {
        theFaceIsThatOfTheDocument();
        noOtherMemberCanBeSeen();
        noPrivateMethodBearsAPublicName();
        theTextKeepsToTheRules();
        sizesKeepToTheRules();
        check.end();
    }

    private static void theFaceIsThatOfTheDocument() throws Exception {
        Set<String> due = new TreeSet<>();
        String document = Files.readString(Path.of("../shared/DOC.md"));
        String face = document.substring(document.indexOf("public final class"), document.indexOf("## Terms"));
        Matcher line = Pattern.compile("    public (\\w+) (\\w+)\\(([^)]*)\\)").matcher(face);
        while (line.find()) {
            due.add(line.group(1) + " " + line.group(2) + " " + line.group(3).replaceAll(" \\w+(,|$)", "$1"));
        }
        Set<String> there = new TreeSet<>();
        for (Method method : CloudHall.class.getDeclaredMethods()) {
            if (Modifier.isPublic(method.getModifiers())) {
                List<String> types = new ArrayList<>();
                for (Class<?> type : method.getParameterTypes()) {
                    types.add(type.getName());
                }
                there.add(method.getReturnType().getName() + " " + method.getName() + " " + String.join(", ", types));
            }
        }
        check.is("calls of the document", due.size(), 42);
        check.is("the face", there, due);
        check.is("the class", CloudHall.class.getModifiers(), Modifier.PUBLIC | Modifier.FINAL);
    }

    private static void noOtherMemberCanBeSeen() {
        for (Field field : CloudHall.class.getDeclaredFields()) {
            check.is("private " + field, Modifier.isPrivate(field.getModifiers()), true);
            if (Modifier.isStatic(field.getModifiers())) {
                check.is("final " + field, Modifier.isFinal(field.getModifiers()), true);
            }
        }
        for (Method method : CloudHall.class.getDeclaredMethods()) {
            int seen = method.getModifiers() & (Modifier.PUBLIC | Modifier.PRIVATE);
            check.is("public or private " + method, seen != 0, true);
        }
        Constructor<?>[] made = CloudHall.class.getDeclaredConstructors();
        check.is("one constructor without arguments", made.length * 10 + made[0].getParameterCount(), 10);
    }

    private static void noPrivateMethodBearsAPublicName() {
        Set<String> names = new TreeSet<>();
        for (Method method : CloudHall.class.getMethods()) {
            names.add(method.getName());
        }
        for (Method method : CloudHall.class.getDeclaredMethods()) {
            if (!Modifier.isPublic(method.getModifiers())) {
                check.is("a name of its own " + method.getName(), names.contains(method.getName()), false);
            }
        }
        for (Class<?> inside : CloudHall.class.getDeclaredClasses()) {
            for (Method method : inside.getDeclaredMethods()) {
                check.is("a name of its own " + method, names.contains(method.getName()), false);
            }
        }
    }

    private static void theTextKeepsToTheRules() throws Exception {
        String text = Files.readString(Path.of("src/main/java/CloudHall.java"), StandardCharsets.ISO_8859_1);
        String[] ruledOut = {"->", "::", "\\btry\\b", "\\bcatch\\b", "\\bfinally\\b", "\\bassert\\b", "\\bsynchronized\\b",
            "Exact\\(", "\\bSystem\\.(out|err|exit|nanoTime|currentTimeMillis)", "\\bvar\\b", "\\bObject\\b", "\\bequals\\(",
            "\\bhashCode\\(", "\\btoString\\(", "\" *\\+", "\\+ *\"", "\\bwhile *\\(true\\)", "for *\\(;;", "[^\\x00-\\x7f]",
            "\\bMap\\b", "\\bSet\\b", "\\bstatic \\{", "\\bprotected\\b", "\\bpackage\\b"};
        for (String rule : ruledOut) {
            check.is("no " + rule, Pattern.compile(rule).matcher(text).find(), false);
        }
        Set<String> imports = new TreeSet<>();
        Matcher line = Pattern.compile("import ([\\w.]+);").matcher(text);
        while (line.find()) {
            imports.add(line.group(1));
        }
        check.is("imports", imports, new TreeSet<>(List.of("java.util.ArrayList", "java.util.NoSuchElementException")));
    }

    private static void sizesKeepToTheRules() throws Exception {
        List<Class<?>> all = new ArrayList<>(List.of(CloudHall.class.getDeclaredClasses()));
        check.is("some twelve classes", all.size() < 12, true);
        for (Class<?> inside : all) {
            check.is("private or package-visible " + inside, inside.getModifiers() & (Modifier.PUBLIC | Modifier.PROTECTED), 0);
            check.is("static " + inside, Modifier.isStatic(inside.getModifiers()), true);
        }
        all.add(CloudHall.class);
        for (Class<?> type : all) {
            int fields = 0;
            for (Field field : type.getDeclaredFields()) {
                fields += Modifier.isStatic(field.getModifiers()) ? 0 : 1;
            }
            check.is("some twenty fields " + type, fields <= 20, true);
            for (Method method : type.getDeclaredMethods()) {
                check.is("seven parameters " + method, method.getParameterCount() <= 7, true);
            }
        }
        check.is("lines of the longest method", longestMethod() <= 60, true);
    }

    /** From a line that opens a method, at the indent of a member, to the line that closes it. */
    private static int longestMethod() throws Exception {
        int longest = 0;
        int start = -1;
        List<String> lines = Files.readAllLines(Path.of("src/main/java/CloudHall.java"));
        for (int i = 0; i < lines.size(); i++) {
            if (Pattern.matches(" {4}( {4})?[\\w\\[\\]<> ]+\\(.*", lines.get(i)) && start < 0) {
                start = i;
            } else if (Pattern.matches(" {4}( {4})?\\}", lines.get(i)) && start >= 0) {
                longest = Math.max(longest, i - start + 1);
                start = -1;
            }
        }
        check.is("methods were found", longest > 10, true);
        return longest;
    }
}
