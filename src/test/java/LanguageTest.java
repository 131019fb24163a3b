import java.io.IOException;
import java.lang.reflect.Constructor;
import java.lang.reflect.Field;
import java.lang.reflect.Method;
import java.lang.reflect.Modifier;
import java.nio.file.Files;
import java.nio.file.Path;
import java.util.Arrays;
import java.util.Map;
import java.util.Set;
import java.util.TreeMap;
import java.util.TreeSet;
import java.util.regex.Matcher;
import java.util.regex.Pattern;

/** The face that the document asks for, and the rules of LANGUAGE.md that can be seen from here. */
public final class LanguageTest {
    private static final Due DUE = new Due("language");
    private static final String FACE = "above(int,int) back() bag(int) clear() comes(int,int) common(int,int,int) "
            + "count(int) days(int) feed(int) first(int) forbids(int) friend(int,int) friendFor(int,int,int,int) "
            + "image() ink(int,int) judge() kinds(int) knownIn(int,int) knows(int,int) lamp(int) letHer(int,int,int) "
            + "letter(int,int) lots(int,int,int) person(int,int) post() rarest(int) reach(int,int) recalls(int) "
            + "restore() row(int) rubber(int) rubberFor(int,int,int) shade(int) share(int)long swap(int) "
            + "damp(int,int,int,int,int)long tells(int,int) then(int,int) toWhom(int,int) two(int,int,int) "
            + "whatKind(int,int) when(int,int)";
    private static final int DEEPEST = 8;
    private static final Set<String> LIBRARY = Set.of("Long.bitCount", "Integer.bitCount", "Math.min", "Math.max",
            "System.arraycopy");

    public static void main(String[] args) throws IOException {
        face();
        insideClasses();
        text(Files.readString(Path.of("src/main/java/MayReadPencil.java")));
        DUE.end();
    }

    private static String told(Method method) {
        StringBuilder text = new StringBuilder(method.getName()).append('(');
        for (Class<?> type : method.getParameterTypes()) {
            text.append(text.charAt(text.length() - 1) == '(' ? "" : ",").append(type.getName());
        }
        boolean isInt = method.getReturnType() == int.class;
        return text.append(')').append(isInt ? "" : method.getReturnType().getName()).toString();
    }

    private static void face() {
        Class<?> type = MayReadPencil.class;
        DUE.isSo("it is public and final", type.getModifiers() == (Modifier.PUBLIC | Modifier.FINAL));
        Set<String> open = new TreeSet<>();
        for (Method method : type.getDeclaredMethods()) {
            if (!Modifier.isPrivate(method.getModifiers())) {
                DUE.isSo(method + " is public and no more", method.getModifiers() == Modifier.PUBLIC);
                open.add(told(method));
            }
        }
        Set<String> due = new TreeSet<>(Arrays.asList(FACE.split(" ")));
        DUE.isSo("its methods are " + due + " and not " + open, open.equals(due));
        Constructor<?>[] constructors = type.getDeclaredConstructors();
        DUE.isSo("one public constructor without parameters", constructors.length == 1
                && constructors[0].getModifiers() == Modifier.PUBLIC && constructors[0].getParameterCount() == 0);
        fields(type, true);
    }

    private static void fields(Class<?> type, boolean isFace) {
        int many = 0;
        for (Field field : type.getDeclaredFields()) {
            boolean isStatic = Modifier.isStatic(field.getModifiers());
            DUE.isSo(field + " is private", !isFace || Modifier.isPrivate(field.getModifiers()));
            DUE.isSo(field + " is final where it is static", !isStatic || Modifier.isFinal(field.getModifiers()));
            many += isStatic ? 0 : 1;
        }
        DUE.isSo(type + " has some twenty fields at most", many <= 20);
    }

    private static void insideClasses() {
        Class<?>[] inside = MayReadPencil.class.getDeclaredClasses();
        Set<String> open = new TreeSet<>();
        for (Method method : MayReadPencil.class.getDeclaredMethods()) {
            open.add(method.getName());
        }
        DUE.isSo("some twelve classes at most", inside.length <= 12);
        for (Class<?> type : inside) {
            DUE.isSo(type + " is static", Modifier.isStatic(type.getModifiers()));
            fields(type, false);
            for (Method method : type.getDeclaredMethods()) {
                DUE.isSo(method + " bears a name of its own", !open.contains(method.getName()));
                DUE.isSo(method + " has seven parameters at most", method.getParameterCount() <= 7);
            }
        }
    }

    private static void text(String text) {
        DUE.isSo("signs 1 to 127", text.chars().allMatch(sign -> sign > 0 && sign < 128));
        String code = text.replaceAll("(?s)/\\*.*?\\*/", "").replaceAll("//[^\n]*", "");
        for (String word : new String[] {"throw", "throws", "try", "catch", "finally", "synchronized", "assert",
            "package", "import", "protected", "float", "double", "->", "::", "yield", "strictfp", "native"}) {
            String asWord = Character.isLetter(word.charAt(0)) ? "\\b" + word + "\\b" : Pattern.quote(word);
            DUE.isSo("no " + word, !Pattern.compile(asWord).matcher(code).find());
        }
        Matcher call = Pattern.compile("\\b((?:Long|Integer|Math|System|Arrays|String)\\.\\w+)").matcher(code);
        while (call.find()) {
            DUE.isSo(call.group(1) + " is of the library's part", LIBRARY.contains(call.group(1)));
        }
        methods(code.split("\n"));
    }

    private static void methods(String[] lines) {
        Map<String, String> bodies = new TreeMap<>();
        Pattern head = Pattern.compile("( +)(?:[\\w\\[\\]]+ )+(\\w+)\\([^()]*\\) \\{");
        for (int i = 0; i < lines.length; i++) {
            Matcher matcher = head.matcher(lines[i]);
            if (matcher.matches() && !lines[i].contains("else ")) {
                int end = i;
                while (end < lines.length && !lines[end].equals(matcher.group(1) + "}")) {
                    end++;
                }
                DUE.isSo("sixty lines at most: " + lines[i].trim(), end - i < 60);
                // Methods of one name, in several classes, are looked at as one that makes all their calls.
                String body = String.join("\n", Arrays.copyOfRange(lines, i + 1, end));
                bodies.merge(matcher.group(2), body, String::concat);
            }
        }
        for (String name : bodies.keySet()) {
            int depth = depth(name, bodies, 0);
            DUE.isSo("calls go eight deep at most: " + name + " goes " + depth, depth <= DEEPEST);
        }
    }

    /** How deep calls go from a method, itself and the library counted. */
    private static int depth(String name, Map<String, String> bodies, int above) {
        int deepest = 0;
        Matcher call = Pattern.compile("(?<!new )\\b(\\w+)\\(").matcher(bodies.getOrDefault(name, ""));
        while (call.find() && above <= DEEPEST) {
            String called = call.group(1);
            if (bodies.containsKey(called) || LIBRARY.stream().anyMatch(one -> one.endsWith("." + called))) {
                deepest = Math.max(deepest, depth(called, bodies, above + 1));
            }
        }
        return deepest + 1;
    }
}
