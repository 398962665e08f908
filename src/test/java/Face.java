import java.lang.reflect.Constructor;
import java.lang.reflect.Field;
import java.lang.reflect.Method;
import java.lang.reflect.Modifier;
import java.nio.file.Files;
import java.nio.file.Path;
import java.util.Set;
import java.util.TreeSet;
import java.util.regex.Matcher;
import java.util.regex.Pattern;

/** The public face is the document's, and the file keeps to what of LANGUAGE.md can be seen at a glance. */
public final class Face {
    private static final String[] METHODS = {
        "int learns(int,int)", "int set(int,int,int)", "int house(int,int)", "int told(int,int)", "int feed(int)",
        "int text()", "int force(int)", "int follows(int,int)", "int laws(int)", "int tell(int,int)", "int day()",
        "int run(int,int,int)", "int asks(int,int,int)", "int best(int,int,int)", "int whom(int,int,int)",
        "int tells(int,int,int)", "int film(int,int,int)", "int drawn(int)", "long chance(int,int,int,int)",
        "int image()", "int back()", "int count(int)", "int sheet(int,int,int)", "int cell(int,int,int)",
        "int copy(int,int,int,int,int)", "int houses(int,int,int,int)", "int taken(int,int)"};
    private static final String[] RULED_OUT = {"throw", "throws", "try", "catch", "finally", "synchronized", "assert",
        "import", "package", "equals", "hashCode", "toString", "Object", "Random", "System.currentTimeMillis",
        "System.nanoTime", "Thread", "double", "float"};
    private static int wrong = 0;

    private static void must(boolean holds, String what) {
        if (!holds) {
            wrong++;
            System.out.println(what);
        }
    }

    public static void main(String[] args) throws Exception {
        face();
        for (Class<?> inside : ApplesFall.class.getDeclaredClasses()) {
            inside(inside);
        }
        language(Files.readString(Path.of(args.length > 0 ? args[0] : "src/main/java/ApplesFall.java")));
        System.out.println(wrong == 0 ? "the face is as told" : wrong + " things are not as told");
        if (wrong != 0) {
            System.exit(1);
        }
    }

    private static void face() {
        Class<?> c = ApplesFall.class;
        must(Modifier.isPublic(c.getModifiers()) && Modifier.isFinal(c.getModifiers()), "not public and final");
        Set<String> due = new TreeSet<>(Set.of(METHODS));
        Set<String> there = new TreeSet<>();
        Set<String> names = new TreeSet<>();
        for (Method m : c.getDeclaredMethods()) {
            if (Modifier.isPublic(m.getModifiers())) {
                there.add(signature(m));
                names.add(m.getName());
            } else {
                must(Modifier.isPrivate(m.getModifiers()), m + " is neither public nor private");
            }
        }
        must(there.equals(due), "methods are " + there);
        for (Method m : c.getDeclaredMethods()) {
            must(Modifier.isPublic(m.getModifiers()) || !names.contains(m.getName()), m + " bears a public name");
        }
        Constructor<?>[] made = c.getDeclaredConstructors();
        must(made.length == 1 && made[0].getParameterCount() == 0 && Modifier.isPublic(made[0].getModifiers()),
            "constructors");
        Set<String> constants = new TreeSet<>();
        for (Field f : c.getDeclaredFields()) {
            boolean isPublic = Modifier.isPublic(f.getModifiers());
            must(isPublic || Modifier.isPrivate(f.getModifiers()), f + " is neither public nor private");
            must(!Modifier.isStatic(f.getModifiers()) || Modifier.isFinal(f.getModifiers()), f + " isn't final");
            if (isPublic) {
                constants.add(f.getType() + " " + f.getName());
            }
        }
        must(constants.equals(Set.of("int NONE", "int BAD", "int STATE", "int FULL", "long NO")),
            "constants are " + constants);
        must(c.getDeclaredClasses().length <= 11, "more than twelve classes");
    }

    private static String signature(Method m) {
        StringBuilder s = new StringBuilder(m.getReturnType() + " " + m.getName() + "(");
        for (Class<?> p : m.getParameterTypes()) {
            s.append(s.charAt(s.length() - 1) == '(' ? "" : ",").append(p);
        }
        return s.append(')').toString();
    }

    private static void inside(Class<?> inside) {
        must(Modifier.isStatic(inside.getModifiers()), inside + " isn't static");
        must(!Modifier.isPublic(inside.getModifiers()), inside + " is public");
        int fields = 0;
        for (Field f : inside.getDeclaredFields()) {
            fields += Modifier.isStatic(f.getModifiers()) ? 0 : 1;
            must(!Modifier.isStatic(f.getModifiers()) || Modifier.isFinal(f.getModifiers()), f + " isn't final");
        }
        must(fields <= 20, inside + " has more than twenty fields");
        for (Method m : inside.getDeclaredMethods()) {
            must(m.getParameterCount() <= 7, m + " takes more than seven");
            for (String due : METHODS) {
                must(!due.contains(" " + m.getName() + "("), m + " bears a public name");
            }
        }
    }

    private static void language(String source) {
        String code = source.replaceAll("(?s)/\\*.*?\\*/", "").replaceAll("//[^\n]*", "");
        String bare = code.replaceAll("\"[^\"\n]*\"", "\"\"").replaceAll("'[^'\n]'", "' '");
        for (String word : RULED_OUT) {
            Matcher m = Pattern.compile("\\b" + Pattern.quote(word) + "\\b").matcher(bare);
            must(!m.find(), "the file says " + word);
        }
        must(!bare.contains("->"), "a lambda");
        must(!bare.contains("::"), "a method reference");
        must(!Pattern.compile("\"\\s*\\+|\\+\\s*\"").matcher(bare).find(), "texts joined by +");
        must(source.chars().allMatch(ch -> ch == '\n' || ch >= 32 && ch < 127), "a sign outside 32 .. 126");
        int lines = 0;
        for (String line : code.split("\n")) {
            boolean begins = line.matches("( {4}| {8})[A-Za-z].*\\) \\{") && !line.matches(" *(for|if|while|switch).*");
            lines = begins ? 0 : lines + 1;
            must(!line.matches("( {4}| {8})\\}") || lines <= 60 || line.matches(" {4}\\}"), "a method of " + lines);
        }
    }
}
