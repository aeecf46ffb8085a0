import java.lang.reflect.Constructor;
import java.lang.reflect.Field;
import java.lang.reflect.Method;
import java.lang.reflect.Modifier;
import java.nio.file.Files;
import java.nio.file.Path;
import java.util.Arrays;
import java.util.List;
import java.util.Set;
import java.util.TreeSet;
import java.util.regex.Matcher;
import java.util.regex.Pattern;

/** What of LANGUAGE.md and of the document's face can be seen in the class and its source. */
public final class LanguageTest {
    private static final List<String> FACE = List.of("int feed(int,int,int,int,int)", "boolean end(int)", "int house()", "int fault(int)",
        "int has(int)", "int letter(int,int,int)", "int person(int,int)", "int floor(int,int)", "boolean put(int,int)", "boolean row()",
        "int day(int,int)", "int met(int)", "int judge(int)", "int worth()", "int seek()", "int spent()", "int fewest()", "int better(int)",
        "int both(int,int)", "int trade(int,int)", "int should(int)", "int bound(boolean)", "long likely(int,int)", "int enough(int,int)",
        "int over(int,int,int)", "long stairs(int)", "int draw(int)", "boolean seed(int)", "int alone(int)", "int free(int)",
        "int seat(int,int)", "int fit(int,int)", "int shut(int)", "int never(int)", "int weeks()", "int grow(int)", "int move(int)",
        "int image()", "int octet(int)", "boolean on()", "int status(int)");
    private static int wrong = 0;

    private static void must(boolean holds, String what) {
        if (!holds) {
            wrong++;
            System.out.println("language: " + what);
        }
    }
    private static String told(Method m) {
        StringBuilder s = new StringBuilder(m.getReturnType() + " " + m.getName() + "(");
        for (Class<?> type : m.getParameterTypes()) s.append(s.charAt(s.length() - 1) == '(' ? "" : ",").append(type);
        return s.append(")").toString();
    }

    private static void face() {
        Class<?> c = DeskDays.class;
        must(Modifier.isPublic(c.getModifiers()) && Modifier.isFinal(c.getModifiers()), "the class is public and final");
        Set<String> shown = new TreeSet<>();
        Set<String> names = new TreeSet<>();
        for (Method m : c.getDeclaredMethods()) {
            if (Modifier.isPublic(m.getModifiers())) {
                shown.add(told(m));
                names.add(m.getName());
            } else {
                must(Modifier.isPrivate(m.getModifiers()), m + " is neither public nor private");
            }
        }
        must(shown.equals(new TreeSet<>(FACE)), "the face is " + shown);
        for (Constructor<?> one : c.getDeclaredConstructors())
            must(Modifier.isPublic(one.getModifiers()) && one.getParameterCount() == 0, "constructor " + one);
        for (Field f : c.getDeclaredFields())
            must(f.getName().equals("NONE") ? Modifier.isPublic(f.getModifiers()) : Modifier.isPrivate(f.getModifiers()), "field " + f);
        must(c.getDeclaredClasses().length <= 12, "classes: " + c.getDeclaredClasses().length);
        for (Class<?> inner : c.getDeclaredClasses()) inside(inner, names);
        fields(c);
    }
    private static void inside(Class<?> c, Set<String> faceNames) {
        must(Modifier.isStatic(c.getModifiers()), c + " is static");
        must(!Modifier.isPublic(c.getModifiers()) && !Modifier.isProtected(c.getModifiers()), c + " is not shown");
        for (Method m : c.getDeclaredMethods()) must(!faceNames.contains(m.getName()), m + " bears a name of the face");
        fields(c);
    }
    private static void fields(Class<?> c) {
        int count = 0;
        for (Field f : c.getDeclaredFields()) {
            if (!Modifier.isStatic(f.getModifiers())) count++;
            else must(Modifier.isFinal(f.getModifiers()), f + " is final");
        }
        must(count <= 20, c + " has " + count + " fields");
        for (Method m : c.getDeclaredMethods()) must(m.getParameterCount() <= 7, m + " takes at most seven");
    }

    private static void source() throws Exception {
        String text = Files.readString(Path.of("src/main/java/DeskDays.java"));
        must(text.chars().allMatch(k -> k < 128), "signs below 128");
        String code = text.replaceAll("(?s)/\\*.*?\\*/", " ").replaceAll("//[^\\n]*", " ").replaceAll("\"(\\\\.|[^\"\\\\])*\"", "\"\"");
        for (String word : "package throw throws try catch finally synchronized assert protected volatile transient native instanceof record interface abstract var yield".split(" "))
            must(!Pattern.compile("\\b" + word + "\\b").matcher(code).find(), "no " + word);
        for (String sign : new String[] {"->", "::", "@", "Exact(", "System.out", "Random", "nanoTime", "currentTime", "Thread", "String.format"})
            must(!code.contains(sign), "no " + sign);
        must(!Pattern.compile("static\\s*\\{").matcher(code).find(), "no static initialiser");
        Matcher imports = Pattern.compile("import ([^;]*);").matcher(code);
        while (imports.find()) must(imports.group(1).equals("java.util.Arrays"), "import " + imports.group(1));
        Matcher library = Pattern.compile("\\b(Arrays|Math|Integer|Long|System)\\.(\\w+)").matcher(code);
        Set<String> allowed = Set.of("Arrays.fill", "Math.max", "Math.min", "Math.floorDiv", "Math.floorMod", "Integer.bitCount", "System.arraycopy");
        while (library.find()) must(allowed.contains(library.group()), "the library: " + library.group());
        lengths(text);
    }
    /** A method's lines, from its head to the brace that stands below it. */
    private static void lengths(String text) {
        List<String> lines = Arrays.asList(text.split("\n"));
        for (int k = 0; k < lines.size(); k++) {
            Matcher head = Pattern.compile("^( +)[\\w\\[\\] ]+\\([^;]*\\) \\{$").matcher(lines.get(k));
            if (!head.matches() || head.group(1).length() > 8 || lines.get(k).contains(" new ")) continue;
            int end = lines.subList(k, lines.size()).indexOf(head.group(1) + "}");
            must(end >= 0 && end < 65, end + " lines: " + lines.get(k).trim());
        }
    }

    public static void main(String[] args) throws Exception {
        face();
        source();
        System.out.println(wrong == 0 ? "language: as the rules are" : "language: " + wrong + " not as the rules are");
        if (wrong != 0) System.exit(1);
    }
}
