import java.lang.reflect.Constructor;
import java.lang.reflect.Field;
import java.lang.reflect.Method;
import java.lang.reflect.Modifier;
import java.nio.file.Files;
import java.nio.file.Path;
import java.util.Set;
import java.util.TreeSet;
import java.util.regex.Matcher;
import java.util.regex.Pattern;

/** The public face is the document's, and the file keeps to what of LANGUAGE.md can be seen at a glance. */
public final class Face {
    private static final String[] METHODS = {
        "int learns(int,int)", "int set(int,int,int)", "int house(int,int)", "int told(int,int)", "int feed(int)",
        "int text()", "int force(int)", "int follows(int,int)", "int laws(int)", "int tell(int,int)", "int day()",
        "int run(int,int,int)", "int asks(int,int,int)", "int best(int,int,int)", "int whom(int,int,int)",
        "int tells(int,int,int)", "int film(int,int,int)", "int drawn(int)", "long chance(int,int,int,int)",
        "int image()", "int back()", "int count(int)", "int sheet(int,int,int)", "int cell(int,int,int)",
        "int copy(int,int,int,int,int)", "int houses(int,int,int,int)", "int taken(int,int)"};
    private static final String[] RULED_OUT = {"throw", "throws", "try", "catch", "finally", "synchronized", "assert",
        "import", "package", "equals", "hashCode", "toString", "Object", "Random", "System.currentTimeMillis",
        "System.nanoTime", "Thread", "double", "float"};
    private static final Set<String> LIBRARY = Set.of("Math.max", "Math.min", "Integer.bitCount", "System.arraycopy");
    private static int wrong = 0;

    private static void must(boolean holds, String what) {
        if (!holds) {
            wrong++;
            System.out.println(what);
        }
    }

    public static void main(String[] args) throws Exception {
        face();
        for (Class<?> inside : ApplesFall.class.getDeclaredClasses()) {
            inside(inside);
        }
        String source = Files.readString(Path.of(args.length > 0 ? args[0] : "src/main/java/ApplesFall.java"));
        language(source);
        recursion(source);
        Path doc = Path.of("../shared/DOC.md");
        if (Files.exists(doc)) {
            document(source, Files.readString(doc));
        } else {
            System.out.println("no document at " + doc + ": the face isn't held against it");
        }
        System.out.println(wrong == 0 ? "the face is as told" : wrong + " things are not as told");
        if (wrong != 0) {
            System.exit(1);
        }
    }

    private static void face() {
        Class<?> c = ApplesFall.class;
        must(Modifier.isPublic(c.getModifiers()) && Modifier.isFinal(c.getModifiers()), "not public and final");
        Set<String> due = new TreeSet<>(Set.of(METHODS));
        Set<String> there = new TreeSet<>();
        Set<String> names = new TreeSet<>();
        for (Method m : c.getDeclaredMethods()) {
            if (Modifier.isPublic(m.getModifiers())) {
                there.add(signature(m));
                names.add(m.getName());
            } else {
                must(Modifier.isPrivate(m.getModifiers()), m + " is neither public nor private");
            }
        }
        must(there.equals(due), "methods are " + there);
        for (Method m : c.getDeclaredMethods()) {
            must(Modifier.isPublic(m.getModifiers()) || !names.contains(m.getName()), m + " bears a public name");
        }
        Constructor<?>[] made = c.getDeclaredConstructors();
        must(made.length == 1 && made[0].getParameterCount() == 0 && Modifier.isPublic(made[0].getModifiers()),
            "constructors");
        Set<String> constants = new TreeSet<>();
        for (Field f : c.getDeclaredFields()) {
            boolean isPublic = Modifier.isPublic(f.getModifiers());
            must(isPublic || Modifier.isPrivate(f.getModifiers()), f + " is neither public nor private");
            must(!Modifier.isStatic(f.getModifiers()) || Modifier.isFinal(f.getModifiers()), f + " isn't final");
            if (isPublic) {
                constants.add(f.getType() + " " + f.getName());
            }
        }
        must(constants.equals(Set.of("int NONE", "int BAD", "int STATE", "int FULL", "long NO")),
            "constants are " + constants);
        must(ApplesFall.NONE == -1 && ApplesFall.BAD == -2 && ApplesFall.STATE == -3 && ApplesFall.FULL == -4
            && ApplesFall.NO == -4611686018427387904L, "the constants' values");
        must(c.getDeclaredClasses().length <= 11, "more than twelve classes");
    }

    /** Each constant with its value and each call with its parameters stand in the file as in the document, under its headings. */
    private static void document(String source, String doc) {
        String face = doc.substring(doc.indexOf("```java"), doc.indexOf("```", doc.indexOf("```java") + 7));
        int members = 0;
        Matcher m = Pattern.compile("(?m)^ +(public [^;]*);$").matcher(face);
        while (m.find()) {
            members++;
            String end = m.group(1).endsWith(")") ? " {\n" : ";\n";
            must(source.contains("\n    " + m.group(1) + end), "the file doesn't say " + m.group(1));
        }
        must(members == METHODS.length + 3, "the document's face has " + members + " members");
        StringBuilder due = new StringBuilder();
        Matcher ahead = Pattern.compile("Ahead of the calls (.*) the interface says: ---- (.*)\\.").matcher(doc);
        while (ahead.find()) {
            due.append("---- ").append(ahead.group(2)).append('\n');
            due.append(ahead.group(1).replaceAll("`", "").replaceAll(", ", "\n")).append('\n');
        }
        StringBuilder there = new StringBuilder();
        Matcher line = Pattern.compile("(?m)^    (?:// (---- .*)|public (?:int|long) (\\w+)\\(.*)$").matcher(source);
        while (line.find() && there.length() < due.length()) {
            there.append(line.group(1) != null ? line.group(1) : line.group(2)).append('\n');
        }
        must(due.length() > 0 && there.toString().equals(due.toString()), "the headings and calls are " + there);
    }

    /** What calls itself is private and static, and methods that call one another are private (rule 8). */
    private static void recursion(String source) {
        String code = source.replaceAll("(?s)/\\*.*?\\*/", "").replaceAll("//[^\n]*", "");
        Pattern method = Pattern.compile("(?ms)^( {4}| {8})((?:\\w+ )*)(?:\\w+(?:\\[\\])? )(\\w+)\\([^\n]*\\) \\{$"
            + "(.*?)^\\1\\}$");
        Matcher m = method.matcher(code);
        int methods = 0;
        while (m.find()) {
            methods++;
            boolean calls = Pattern.compile("(?<![\\w.])" + m.group(3) + "\\(").matcher(m.group(4)).find();
            must(!calls || m.group(2).equals("private static "), m.group(3) + " calls itself");
        }
        must(methods > METHODS.length, "only " + methods + " methods were seen");
    }

    private static String signature(Method m) {
        StringBuilder s = new StringBuilder(m.getReturnType() + " " + m.getName() + "(");
        for (Class<?> p : m.getParameterTypes()) {
            s.append(s.charAt(s.length() - 1) == '(' ? "" : ",").append(p);
        }
        return s.append(')').toString();
    }

    private static void inside(Class<?> inside) {
        must(Modifier.isStatic(inside.getModifiers()), inside + " isn't static");
        must(!Modifier.isPublic(inside.getModifiers()), inside + " is public");
        int fields = 0;
        for (Field f : inside.getDeclaredFields()) {
            fields += Modifier.isStatic(f.getModifiers()) ? 0 : 1;
            must(!Modifier.isStatic(f.getModifiers()) || Modifier.isFinal(f.getModifiers()), f + " isn't final");
        }
        must(fields <= 20, inside + " has more than twenty fields");
        for (Method m : inside.getDeclaredMethods()) {
            must(m.getParameterCount() <= 7, m + " takes more than seven");
            for (String due : METHODS) {
                must(!due.contains(" " + m.getName() + "("), m + " bears a public name");
            }
        }
    }

    private static void language(String source) {
        String code = source.replaceAll("(?s)/\\*.*?\\*/", "").replaceAll("//[^\n]*", "");
        String bare = code.replaceAll("\"[^\"\n]*\"", "\"\"").replaceAll("'[^'\n]'", "' '");
        for (String word : RULED_OUT) {
            Matcher m = Pattern.compile("\\b" + Pattern.quote(word) + "\\b").matcher(bare);
            must(!m.find(), "the file says " + word);
        }
        Matcher library = Pattern.compile("\\b(Math|Integer|Long|System|Arrays|List|String|StringBuilder)\\.\\w+").matcher(bare);
        while (library.find()) {
            must(LIBRARY.contains(library.group()), "the file calls " + library.group());
        }
        must(!bare.contains("->"), "a lambda");
        must(!bare.contains("::"), "a method reference");
        must(!Pattern.compile("\"\\s*\\+|\\+\\s*\"").matcher(bare).find(), "texts joined by +");
        must(source.chars().allMatch(ch -> ch == '\n' || ch >= 32 && ch < 127), "a sign outside 32 .. 126");
        int lines = 0;
        for (String line : code.split("\n")) {
            boolean begins = line.matches("( {4}| {8})[A-Za-z].*\\) \\{") && !line.matches(" *(for|if|while|switch).*");
            lines = begins ? 0 : lines + 1;
            must(!line.matches("( {4}| {8})\\}") || lines <= 60 || line.matches(" {4}\\}"), "a method of " + lines);
        }
    }
}
