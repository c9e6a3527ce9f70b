import java.lang.reflect.Constructor;
import java.lang.reflect.Field;
import java.lang.reflect.Method;
import java.lang.reflect.Modifier;
import java.nio.file.Files;
import java.nio.file.Path;
import java.util.Arrays;
import java.util.Map;
import java.util.Set;
import java.util.TreeMap;
import java.util.TreeSet;
import java.util.regex.Matcher;
import java.util.regex.Pattern;

/** What of ../shared/LANGUAGE.md can be seen by looking at the class and at its text. */
public final class RulesTest {
    private static final String[] FACE = {"int feed(int,int,int,int,int)", "int back(int)", "int read()", "int place()",
        "int cell(int,int,int)", "int holding(int,int)", "int use(int,int)", "int draw(int,int,int,int)", "int lend(int,int,int)",
        "boolean move(int,int,int)", "int hours(int)", "boolean undo()", "int then(int,int,int)", "int all(int,int,int)",
        "int thickest(int,int)", "int hid(int,int,int,int)", "int lost(int)", "int served(int,int)", "int missed(int,int)",
        "int over()", "int least(int,int,int,int)", "int unseen(int,int,int,int,int)", "int watch(int,int,int,int)",
        "int sight(int,int,int)", "int wind(int)", "int lent(int,int)", "int gone(int)", "int year(int,int,int)",
        "int tell(int,int,int,int)", "int forget()", "int leaks(int)", "int sure(int)", "int ask(int,int)", "boolean hold(int)",
        "boolean restore(int)", "int count(int)"};
    private static final String[] FORBIDDEN = {"throw", "throws", "try", "catch", "finally", "synchronized", "assert", "import",
        "package", "protected", "volatile", "transient", "native", "new Object", "Exact", "System.out", "hashCode", "toString",
        "Thread", "double", "float", "->", "::", "@", "static {", "\" +", "+ \"", "while (true", "for (;;"};

    private static int wrong = 0;
    private static int looked = 0;

    public static void main(String[] args) throws Exception {
        String root = args.length > 0 ? args[0] : ".";
        String source = Files.readString(Path.of(root, "src/main/java/FogShare.java"));
        face();
        classes();
        words(source);
        library(source);
        made(source);
        methods(source);
        System.out.println("RulesTest: " + looked + " looked at, " + wrong + " not as told");
        if (wrong > 0 || looked == 0) {
            System.exit(1);
        }
    }

    private static void so(boolean holds, String what) {
        looked++;
        if (!holds) {
            wrong++;
            System.out.println("not as told: " + what);
        }
    }

    private static String told(Method method) {
        StringBuilder text = new StringBuilder(method.getReturnType().getSimpleName() + " " + method.getName() + "(");
        for (Class<?> type : method.getParameterTypes()) {
            text.append(text.charAt(text.length() - 1) == '(' ? "" : ",").append(type.getSimpleName());
        }
        return text.append(")").toString();
    }

    private static void face() throws Exception {
        Set<String> due = new TreeSet<>(Arrays.asList(FACE));
        Set<String> names = new TreeSet<>();
        Set<String> found = new TreeSet<>();
        for (String one : FACE) {
            names.add(one.replaceAll(".* (\\w+)\\(.*", "$1"));
        }
        for (Method method : FogShare.class.getDeclaredMethods()) {
            if (Modifier.isPublic(method.getModifiers()) && !Modifier.isStatic(method.getModifiers())) {
                found.add(told(method));
            } else {
                so(Modifier.isPrivate(method.getModifiers()), "rule 1: " + method);
                so(!names.contains(method.getName()), "rule 1, a public one's name: " + method);
            }
        }
        so(found.equals(due), "rule 1, the face: " + found);
        for (Field field : FogShare.class.getDeclaredFields()) {
            boolean none = field.getName().equals("NONE") && Modifier.isPublic(field.getModifiers());
            so(none || Modifier.isPrivate(field.getModifiers()), "rule 1: " + field);
        }
        Constructor<?>[] constructors = FogShare.class.getDeclaredConstructors();
        so(constructors.length == 1 && constructors[0].getParameterCount() == 0, "rule 1: one constructor");
        int modifiers = FogShare.class.getModifiers();
        so(Modifier.isPublic(modifiers) && Modifier.isFinal(modifiers), "rule 1: public and final");
        for (Class<?> inner : FogShare.class.getDeclaredClasses()) {
            for (Method method : inner.getDeclaredMethods()) {
                so(!Modifier.isPrivate(method.getModifiers()) || !names.contains(method.getName()), "rule 1: " + method);
            }
        }
    }

    private static void classes() {
        Class<?>[] inners = FogShare.class.getDeclaredClasses();
        so(inners.length + 1 <= 12, "rule 11: " + (inners.length + 1) + " classes");
        for (Class<?> inner : inners) {
            so(Modifier.isStatic(inner.getModifiers()), "rule 2, not static: " + inner);
            so(!Modifier.isPublic(inner.getModifiers()), "rule 1, public: " + inner);
            fields(inner);
        }
        fields(FogShare.class);
    }

    private static void fields(Class<?> one) {
        int own = 0;
        for (Field field : one.getDeclaredFields()) {
            if (Modifier.isStatic(field.getModifiers())) {
                so(Modifier.isFinal(field.getModifiers()), "rule 5: " + field);
                so(field.getType().isPrimitive() || field.getType() == String.class, "rule 5: " + field);
            } else {
                own++;
            }
        }
        so(own <= 20, "rule 11: " + own + " fields in " + one);
    }

    private static String withoutComments(String source) {
        return source.replaceAll("(?s)/\\*.*?\\*/", "").replaceAll("//[^\n]*", "");
    }

    private static void words(String source) {
        so(source.chars().allMatch(c -> c == '\n' || c >= 32 && c < 127), "rule 4: signs 1 to 127");
        String code = withoutComments(source);
        for (String word : FORBIDDEN) {
            String pattern = word.matches("\\w+") ? "\\b" + word + "\\b" : Pattern.quote(word);
            so(!Pattern.compile(pattern).matcher(code).find(), "a word that is not to stand there: " + word);
        }
        so(!Pattern.compile("\\bString\\s*\\[").matcher(code).find(), "rule 5: an array of texts");
    }

    /** What stands behind a class's name and a point: of the library just two functions, and one of its own. */
    private static void library(String source) {
        Set<String> used = new TreeSet<>();
        Matcher m = Pattern.compile("\\b[A-Z]\\w*[a-z]\\w*\\.\\w+").matcher(withoutComments(source));
        while (m.find()) {
            used.add(m.group());
        }
        so(used.equals(Set.of("Math.max", "Math.min", "Tokens.lettersOf")), "rule 4: " + used);
    }

    /** Objects are made with the fields that hold them and in loops of two constructors: no call makes one. */
    private static void made(String source) {
        Pattern field = Pattern.compile(" +private (final )?[\\w\\[\\]]+ \\w+ = new .*;");
        for (String line : withoutComments(source).split("\n")) {
            boolean row = line.trim().equals("slots[i] = new Going();") || line.trim().equals("ring[i] = new Going();");
            so(!line.contains("new ") || row || field.matcher(line).matches(), "README, no call makes an object: " + line.trim());
        }
    }

    /** Methods as this file is written: a head of one line, its end in the column where the head begins. */
    private static void methods(String source) {
        String[] lines = source.split("\n");
        Pattern head = Pattern.compile("^( +)(public|private) [^=;]*\\((.*)\\) \\{$");
        Map<String, Integer> long60 = new TreeMap<>();
        int methods = 0;
        for (int i = 0; i < lines.length; i++) {
            Matcher m = head.matcher(lines[i]);
            if (!m.matches()) {
                continue;
            }
            methods++;
            int end = i;
            while (!lines[end].equals(m.group(1) + "}")) {
                end++;
            }
            if (end - i + 1 > 60) {
                long60.put(lines[i].trim(), end - i + 1);
            }
            so(m.group(3).split(",").length <= 7, "rule 11: parameters of " + lines[i]);
        }
        so(methods > 36, "methods seen: " + methods);
        so(long60.isEmpty(), "rule 11: long methods " + long60);
    }
}
