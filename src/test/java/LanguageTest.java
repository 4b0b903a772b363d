import java.lang.reflect.Constructor;
import java.lang.reflect.Field;
import java.lang.reflect.Member;
import java.lang.reflect.Method;
import java.lang.reflect.Modifier;
import java.nio.file.Files;
import java.nio.file.Path;
import java.util.ArrayList;
import java.util.Arrays;
import java.util.List;
import java.util.Set;
import java.util.TreeSet;
import java.util.regex.Matcher;
import java.util.regex.Pattern;

/** The face of the document and the rules of LANGUAGE.md, as far as a test can see them. */
public final class LanguageTest {
    private static final Check CHECK = new Check("LanguageTest");

    private static final List<String> FACE = List.of(
            "int set(int,int)", "int type(int)", "int wipe()", "int fault()", "int claims()", "int claim(int,int)",
            "int believe(int)", "int put(int)", "int rows()", "int can()", "int ranked(int)", "long ways()",
            "int bound(int,int)", "int alone()", "int fewest()", "int quarrel()", "int ask()",
            "int shares(int,int,int)", "int share(int,int,int)", "int last(int,int)", "int lastChance(int)",
            "int first(int,int)", "int firstChance(int,int)", "long copies(int,int,int)", "long twice(int,int)",
            "int sheet(int,int,int)", "int lose(int)", "int lay(int,int,int,int)", "int get(int,int,int)",
            "int copy(int,int,int,int,int)", "int write(int)", "int count(int)", "long digest()");

    /** What the source may call on a name with a capital letter that is not a class of its own. */
    private static final List<String> LIBRARY = List.of(
            "Math.max", "Math.min", "Math.abs", "Math.floorDiv", "Math.floorMod", "Integer.bitCount",
            "Arrays.fill", "System.arraycopy");

    public static void main(String[] args) throws Exception {
        face();
        classesInside();
        source(Files.readString(Path.of(args.length > 0 ? args[0] : "src/main/java/ToldFigures.java")));
        CHECK.end();
    }

    private static void face() throws Exception {
        Class<?> c = ToldFigures.class;
        CHECK.due("the class is public and final", Modifier.isPublic(c.getModifiers()) && Modifier.isFinal(c.getModifiers()));
        Set<String> open = new TreeSet<>();
        Set<String> openNames = new TreeSet<>();
        for (Method m : c.getDeclaredMethods()) {
            if (!Modifier.isPrivate(m.getModifiers())) {
                CHECK.due(m + " is public and no static", Modifier.isPublic(m.getModifiers()) && !Modifier.isStatic(m.getModifiers()));
                openNames.add(m.getName());
                List<String> types = new ArrayList<>();
                for (Class<?> p : m.getParameterTypes()) {
                    types.add(p.getName());
                }
                open.add(m.getReturnType().getName() + " " + m.getName() + "(" + String.join(",", types) + ")");
            }
        }
        CHECK.due("methods: " + open, open.equals(new TreeSet<>(FACE)));
        for (Method m : allMethods(c)) {
            CHECK.due(m + " bears no public name", Modifier.isPublic(m.getModifiers()) || !openNames.contains(m.getName()));
            CHECK.due(m + " takes seven at most", m.getParameterCount() <= 7);
        }
        Constructor<?>[] made = c.getDeclaredConstructors();
        CHECK.due("one public constructor", made.length == 1 && Modifier.isPublic(made[0].getModifiers()) && made[0].getParameterCount() == 0);
        Set<String> constants = new TreeSet<>();
        for (Field f : c.getDeclaredFields()) {
            if (!Modifier.isPrivate(f.getModifiers())) {
                constants.add(f.getName() + " " + f.getInt(null));
            }
        }
        CHECK.due("constants: " + constants, constants.equals(new TreeSet<>(List.of("NONE -1", "BAD -2", "NOT -3", "FULL -4"))));
    }

    private static List<Method> allMethods(Class<?> c) {
        List<Method> all = new ArrayList<>(Arrays.asList(c.getDeclaredMethods()));
        for (Class<?> inside : c.getDeclaredClasses()) {
            all.addAll(Arrays.asList(inside.getDeclaredMethods()));
        }
        return all;
    }

    private static void classesInside() {
        Class<?>[] inside = ToldFigures.class.getDeclaredClasses();
        CHECK.due("twelve classes at most", inside.length + 1 <= 12);
        for (Class<?> c : inside) {
            int m = c.getModifiers();
            CHECK.due(c + " is static, and not open", Modifier.isStatic(m) && !Modifier.isPublic(m) && !Modifier.isProtected(m));
            fieldsOf(c);
        }
        fieldsOf(ToldFigures.class);
    }

    private static void fieldsOf(Class<?> c) {
        int own = 0;
        for (Field f : c.getDeclaredFields()) {
            if (Modifier.isStatic(f.getModifiers())) {
                CHECK.due(f + " is final", Modifier.isFinal(((Member) f).getModifiers()));
                CHECK.due(f + " is of a type for constants",
                        List.of("int", "long", "boolean", "char", "java.lang.String", "[I", "[J", "[C", "[B").contains(f.getType().getName()));
            } else {
                own++;
            }
        }
        CHECK.due(c + " has some twenty fields at most", own <= 20);
    }

    private static void source(String withComments) {
        String code = withComments.replaceAll("(?s)/\\*.*?\\*/", "").replaceAll("//[^\n]*", "");
        String bare = code.replaceAll("\"[^\"\n]*\"", "\"\"").replaceAll("'[^'\n]'", "' '");
        for (String word : List.of("package", "throw", "throws", "try", "catch", "finally", "synchronized", "assert",
                "var", "float", "double", "volatile", "transient", "native", "strictfp", "record", "goto")) {
            CHECK.due("no " + word, !Pattern.compile("\\b" + word + "\\b").matcher(bare).find());
        }
        CHECK.due("no lambda, no method reference", !bare.contains("->") && !bare.contains("::"));
        CHECK.due("no static block", !Pattern.compile("static\\s*\\{").matcher(bare).find());
        Matcher imports = Pattern.compile("\\bimport\\s+([^;]+);").matcher(bare);
        while (imports.find()) {
            CHECK.due("import " + imports.group(1), imports.group(1).equals("java.util.Arrays"));
        }
        Matcher calls = Pattern.compile("\\b(Math|Integer|Long|Arrays|System|String|List|Short|Byte|Character|Boolean)\\.(\\w+)").matcher(bare);
        while (calls.find()) {
            if (!calls.group().equals("java.util")) {
                CHECK.due(calls.group() + " is of the library that is told",
                        LIBRARY.contains(calls.group()) || imports(bare, calls.start()));
            }
        }
        for (char sign : withComments.toCharArray()) {
            if (sign != '\n' && (sign < ' ' || sign > 126)) {
                CHECK.due("no sign " + (int) sign, false);
            }
        }
        lengths(bare);
    }

    private static boolean imports(String code, int at) {
        return code.substring(Math.max(0, at - 10), at).equals("java.util.");
    }

    /** A method begins with a line that ends with ") {" in the column of its class's members. */
    private static void lengths(String bare) {
        String[] lines = bare.split("\n", -1);
        Pattern head = Pattern.compile("^(    |        )(?:(?:public|private|static|final)\\s+)*[\\w\\[\\]]+ ?\\w*\\([^)]*\\) \\{$");
        int methods = 0;
        for (int i = 0; i < lines.length; i++) {
            Matcher m = head.matcher(lines[i]);
            if (m.matches() && !lines[i].trim().matches("(if|for|while|switch|return)\\b.*")) {
                methods++;
                int end = i;
                while (end < lines.length && !lines[end].equals(m.group(1) + "}")) {
                    end++;
                }
                CHECK.due("short: " + lines[i].trim(), end - i <= 60);
            }
        }
        CHECK.due("methods are seen", methods >= FACE.size() + 1);
    }
}
