import java.lang.reflect.Constructor;
import java.lang.reflect.Field;
import java.lang.reflect.Member;
import java.lang.reflect.Method;
import java.lang.reflect.Modifier;
import java.nio.charset.StandardCharsets;
import java.nio.file.Files;
import java.nio.file.Path;
import java.util.ArrayList;
import java.util.HashSet;
import java.util.List;
import java.util.Set;
import java.util.TreeSet;
import java.util.regex.Matcher;
import java.util.regex.Pattern;

/** The face of the class as the document has it, and the rules of LANGUAGE.md that can be looked up in the text. */
public final class RulesTest {
    private static final String[] FACE = {
        "int type(int,int)", "int wipe(int)", "int undo(int)", "int fault(int)", "int shape(int,int)",
        "int made(int,int)", "int sight(int,int,int)", "int form(int,int)", "int kin(int,int)", "int self(int)",
        "int stands(int,int,int)", "int through(int,int,int,int,int)", "int reach(int,int,int)",
        "int meet(int,int,int,int,int,int)", "int seen(int,int)", "int forget()", "int fits(int)", "int look(int)",
        "int view(int)", "int sees(int,int)", "int watchers(int)", "int echoes(int,int,int,int,int)",
        "long fog(int,int,int,int)", "int sheet(int,int,int)", "int lose(int)", "int lay(int,int,int,int)",
        "int get(int,int,int)", "int copy(int,int,int,int,int)", "int write(int)", "int read(int)", "int count(int)",
        "long digest()"};
    private static final String[] NO_WORDS = {
        "throw", "throws", "try", "catch", "finally", "synchronized", "assert", "import", "package", "native",
        "volatile", "transient", "protected", "MIN_VALUE", "MAX_VALUE", "numberOfTrailingZeros", "System.out",
        "Object", "var", "->", "::", "Exact"};
    private static final Due due = new Due();

    public static void main(String[] args) throws Exception {
        String source = read("source");
        face();
        documentsFace(source, read("doc"));
        documentsHeadings(source, read("doc"));
        ownMembers();
        text(source);
        methods(source.split("\n"));
        due.end();
    }

    private static String read(String property) throws Exception {
        return new String(Files.readAllBytes(Path.of(System.getProperty(property))), StandardCharsets.UTF_8);
    }

    private static void holds(String rule, boolean kept) {
        due.is(rule, kept ? 1 : 0, 1);
    }

    private static String told(Method method) {
        List<String> types = new ArrayList<>();
        for (Class<?> type : method.getParameterTypes()) types.add(type.getSimpleName());
        return method.getReturnType().getSimpleName() + " " + method.getName() + "(" + String.join(",", types) + ")";
    }

    private static void face() {
        Class<?> main = OnlySideways.class;
        holds("public final class", Modifier.isPublic(main.getModifiers()) && Modifier.isFinal(main.getModifiers()));
        Set<String> seen = new TreeSet<>();
        for (Method method : main.getDeclaredMethods()) {
            if (!Modifier.isPrivate(method.getModifiers()) && !method.isSynthetic()) {
                holds("public: " + method, Modifier.isPublic(method.getModifiers()));
                seen.add(told(method));
            }
        }
        holds("the methods of the face: " + seen, seen.equals(new TreeSet<>(List.of(FACE))));
        Constructor<?>[] makers = main.getDeclaredConstructors();
        holds("one public constructor", makers.length == 1 && Modifier.isPublic(makers[0].getModifiers())
            && makers[0].getParameterCount() == 0);
        Set<String> fields = new TreeSet<>();
        for (Field field : main.getDeclaredFields()) {
            if (!Modifier.isPrivate(field.getModifiers())) fields.add(Modifier.toString(field.getModifiers()) + field.getName());
        }
        String how = "public static final";
        holds("the constants: " + fields, fields.equals(Set.of(how + "NONE", how + "BAD", how + "NOT", how + "FULL")));
    }

    /** Each line of the document's face stands in the source as it is. */
    private static void documentsFace(String source, String document) {
        int start = document.indexOf("```java") + "```java".length();
        int lines = 0;
        for (String line : document.substring(start, document.indexOf("```", start)).split("\n")) {
            String told = line.trim();
            if (told.endsWith(";")) {
                String wanted = told.contains("=") ? told : told.substring(0, told.length() - 1) + " {";
                holds("the face: " + told, source.contains("\n    " + wanted + "\n"));
                lines++;
            }
        }
        holds("constants, constructor and methods of the face: " + lines, lines == FACE.length + 2);
    }

    private static void documentsHeadings(String source, String document) {
        Matcher headings = Pattern.compile("Ahead of the calls (.*?) the interface says: (---- [^.]*)\\.").matcher(document);
        int place = 0;
        int headed = 0;
        while (headings.find()) {
            place = next(source, "// " + headings.group(2) + "\n", place);
            for (String name : headings.group(1).replace("`", "").split(", ")) {
                String type = name.equals("fog") || name.equals("digest") ? "long " : "int ";
                place = next(source, "public " + type + name + "(", place);
                headed++;
            }
        }
        holds("every call stands under a heading: " + headed, headed == FACE.length);
    }

    private static int next(String source, String words, int place) {
        int found = source.indexOf(words, Math.max(place, 0));
        holds("behind the one before it: " + words, found >= 0);
        return found;
    }

    private static void ownMembers() {
        Set<String> names = new HashSet<>();
        for (String each : FACE) names.add(each.substring(each.indexOf(' ') + 1, each.indexOf('(')));
        Class<?>[] own = OnlySideways.class.getDeclaredClasses();
        holds("at most twelve classes", own.length < 12);
        List<Class<?>> all = new ArrayList<>(List.of(own));
        all.add(OnlySideways.class);
        for (Class<?> each : all) {
            holds(each + " is static", each == OnlySideways.class || Modifier.isStatic(each.getModifiers()));
            int fields = 0;
            for (Field field : each.getDeclaredFields()) {
                int how = field.getModifiers();
                fields += Modifier.isStatic(how) ? 0 : 1;
                holds("static is final: " + field, !Modifier.isStatic(how) || Modifier.isFinal(how));
            }
            holds("at most twenty fields: " + each, fields <= 20);
            for (Method method : each.getDeclaredMethods()) {
                holds("at most seven parameters: " + method, method.getParameterCount() <= 7);
                boolean hidden = each != OnlySideways.class || isPrivate(method);
                holds("a name of its own: " + method, !hidden || !names.contains(method.getName()));
            }
        }
    }

    private static boolean isPrivate(Member member) {
        return Modifier.isPrivate(member.getModifiers());
    }

    private static void text(String source) {
        String code = source.replaceAll("(?s)/\\*.*?\\*/", " ").replaceAll("//[^\n]*", " ");
        for (String word : NO_WORDS) {
            String pattern = word.matches("[A-Za-z]+") && !word.equals("Exact") ? "\\b" + word + "\\b" : Pattern.quote(word);
            Matcher found = Pattern.compile(pattern).matcher(code);
            holds("the word " + word + " is not there", !found.find());
        }
        Matcher calls = Pattern.compile("\\b(Integer|Long|Math|System|Arrays|String|StringBuilder)\\.(\\w+)").matcher(code);
        Set<String> allowed = Set.of("bitCount", "max", "min", "abs", "arraycopy");
        while (calls.find()) {
            holds("library: " + calls.group(), allowed.contains(calls.group(2)));
        }
        for (char sign : source.toCharArray()) {
            if (sign > 127) holds("a sign above 127", false);
        }
        holds("no array of three dimensions", !code.contains("[][][]"));
    }

    /** Methods stay short, and rows are made in constructors alone, so that no call takes up room. */
    private static void methods(String[] lines) {
        Pattern head = Pattern.compile("( {4}| {8})[^ /}].*\\) \\{");
        Pattern constructor = Pattern.compile(" +(public )?[A-Z]\\w*\\(.*\\) \\{");
        int shown = 0;
        for (int i = 0; i < lines.length; i++) {
            Matcher start = head.matcher(lines[i]);
            if (!start.matches() || lines[i].matches(" +(if|for|while|switch) .*")) continue;
            int end = i;
            while (end < lines.length - 1 && !lines[end].equals(start.group(1) + "}")) {
                boolean makes = lines[end].contains(" new ");
                holds("no object is made in: " + lines[i], !makes || constructor.matcher(lines[i]).matches());
                end++;
            }
            holds("at most sixty lines: " + lines[i], end - i < 60);
            shown++;
        }
        holds("methods looked at: " + shown, shown >= FACE.length + 1);
    }
}
