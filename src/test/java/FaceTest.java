import java.io.IOException;
import java.lang.reflect.Constructor;
import java.lang.reflect.Field;
import java.lang.reflect.Method;
import java.lang.reflect.Modifier;
import java.nio.file.Files;
import java.nio.file.Path;
import java.util.ArrayList;
import java.util.List;
import java.util.TreeSet;
import java.util.regex.Matcher;
import java.util.regex.Pattern;

/**
 * The face of the class as ../shared/DOC.md writes it down, exceptions in their order and all, and nothing else that is
 * not private; and what can be seen in the source of the rules of ../shared/LANGUAGE.md.
 */
public final class FaceTest {
    private static int wrong = 0;
    private static int asked = 0;

    private static void need(boolean is, String what) {
        asked++;
        if (!is) {
            wrong++;
            System.out.println(what);
        }
    }

    private static String read(String file) {
        try {
            return Files.readString(Path.of(file));
        } catch (IOException one) {
            throw new AssertionError(one);
        }
    }

    // ---- the face ----

    private static List<String> faceOfDocument() {
        String document = read("../shared/DOC.md");
        int begin = document.indexOf("public final class Linkwitness {");
        String face = document.substring(begin, document.indexOf("\n}", begin));
        List<String> all = new ArrayList<>();
        for (String line : face.split("\n")) {
            String plain = line.trim();
            if (plain.startsWith("public") && !plain.contains("class")) {
                all.add(plain.replaceAll("(boolean|char|int|long|float|double) \\w+([,)])", "$1$2").replace(";", ""));
            }
        }
        return all;
    }

    private static String parameters(Class<?>[] types, Class<?>[] exceptions) {
        StringBuilder all = new StringBuilder("(");
        for (Class<?> one : types) {
            all.append(all.length() == 1 ? "" : ", ").append(one.getSimpleName());
        }
        all.append(")");
        for (int i = 0; i < exceptions.length; i++) {
            all.append(i == 0 ? " throws " : ", ").append(exceptions[i].getSimpleName());
        }
        return all.toString();
    }

    private static void tryFace() {
        TreeSet<String> due = new TreeSet<>(faceOfDocument());
        TreeSet<String> got = new TreeSet<>();
        TreeSet<String> publicNames = new TreeSet<>();
        need(due.size() == 34, "the document's face has a constructor and 33 methods, read were " + due.size());
        for (Constructor<?> one : Linkwitness.class.getDeclaredConstructors()) {
            got.add("public Linkwitness" + parameters(one.getParameterTypes(), one.getExceptionTypes()));
            need(one.getModifiers() == Modifier.PUBLIC, "a constructor that is not public");
        }
        for (Method one : Linkwitness.class.getDeclaredMethods()) {
            if (one.isSynthetic() || Modifier.isPrivate(one.getModifiers())) {
                continue;
            }
            publicNames.add(one.getName());
            got.add("public " + one.getReturnType().getSimpleName() + " " + one.getName()
                + parameters(one.getParameterTypes(), one.getExceptionTypes()));
            need(one.getModifiers() == Modifier.PUBLIC, one.getName() + " is more or less than public");
        }
        need(got.equals(due), "the face is\n" + got + "\nbut due is\n" + due);
        tryNames(publicNames);
    }

    private static void tryNames(TreeSet<String> publicNames) {
        int modifiers = Linkwitness.class.getModifiers();
        need(Modifier.isPublic(modifiers) && Modifier.isFinal(modifiers), "the class is not public and final");
        need(Linkwitness.class.getPackageName().isEmpty(), "the class has a package");
        need(Linkwitness.class.getSuperclass() == Object.class && Linkwitness.class.getInterfaces().length == 0, "the class is under another");
        for (Field one : Linkwitness.class.getDeclaredFields()) {
            need(Modifier.isPrivate(one.getModifiers()), "the field " + one.getName() + " is not private");
            need(!Modifier.isStatic(one.getModifiers()) || Modifier.isFinal(one.getModifiers()), one.getName() + " is static, but not final");
        }
        for (Method one : Linkwitness.class.getDeclaredMethods()) {
            need(!Modifier.isPrivate(one.getModifiers()) || !publicNames.contains(one.getName()), one.getName() + " is private and public");
        }
        for (Class<?> inside : Linkwitness.class.getDeclaredClasses()) {
            need(Modifier.isPrivate(inside.getModifiers()) && Modifier.isStatic(inside.getModifiers()), inside + " is not private and static");
            long fields = java.util.Arrays.stream(inside.getDeclaredFields()).filter(one -> !Modifier.isStatic(one.getModifiers())).count();
            need(fields <= 20, inside + " has many fields");
            for (Method one : inside.getDeclaredMethods()) {
                need(!publicNames.contains(one.getName()) || !Modifier.isPrivate(one.getModifiers()), one + " has the name of a public one");
            }
            for (Field one : inside.getDeclaredFields()) {
                need(!Modifier.isStatic(one.getModifiers()) || Modifier.isFinal(one.getModifiers()), one + " is static, but not final");
            }
        }
        need(Linkwitness.class.getDeclaredClasses().length <= 12, "there are more than twelve classes");
    }

    // ---- the rules that the source shows ----

    private static String withoutComments(String source) {
        return source.replaceAll("(?s)/\\*.*?\\*/", "").replaceAll("//[^\n]*", "");
    }

    private static void never(String source, String pattern, String what) {
        Matcher matcher = Pattern.compile(pattern).matcher(source);
        need(!matcher.find(), "the source has " + what);
    }

    private static void tryRules() {
        String whole = read("src/main/java/Linkwitness.java");
        String source = withoutComments(whole);
        need(whole.chars().allMatch(one -> one < 128), "the source has a sign beyond 127");
        for (String line : source.split("\n")) {
            need(!line.startsWith("import") || line.equals("import java.util.Arrays;") || line.equals("import java.util.NoSuchElementException;"), line);
        }
        never(source, "^package ", "a package line");
        never(source, "->|::", "a lambda or a method reference");
        never(source, "\\b(finally|synchronized|assert|instanceof|volatile|transient|native|goto)\\b", "a word that it has not");
        never(source, "\\b(catch|try)\\b", "a catch");
        never(source, "\\bstatic \\{", "a static initialiser block");
        never(source, "\\b(hashCode|toString|equals)\\b", "equals, hashCode or toString");
        never(source, "\\b(System\\.(?!arraycopy)|Thread|Random|Runtime|File|Math\\.\\w*Exact)", "a part of the library that it has not");
        never(source, "\\bwhile \\(true\\)|for \\(;;\\)", "a loop without an end");
        never(source, "\\bprotected\\b", "a protected member");
        Matcher thrown = Pattern.compile("throw (.*)").matcher(source);
        while (thrown.find()) {
            need(thrown.group(1).matches("new (IllegalStateException|IllegalArgumentException|IndexOutOfBoundsException|ArithmeticException"
                + "|UnsupportedOperationException|NoSuchElementException)\\(\\);"), thrown.group(1));
        }
        Matcher made = Pattern.compile("(?m)^ +(?:public |private |static |final )*[\\w\\[\\]<>]+ \\w+\\(([^()]*)\\)[^;=]*\\{$").matcher(source);
        int methods = 0;
        while (made.find()) {
            methods++;
            need(made.group(1).split(",").length <= 7, "more than seven parameters: " + made.group());
        }
        need(methods > 100, "methods were found: " + methods);
        tryLengths(source.split("\n"));
    }

    /** A method ends where a line has the closing brace of the depth at which it began. */
    private static void tryLengths(String[] lines) {
        for (int i = 0; i < lines.length; i++) {
            boolean isMethod = lines[i].matches("^ +(public |private |static |final )*[\\w\\[\\]<>]+ ?\\w*\\([^;]*\\{$");
            if (!isMethod || lines[i].matches("^ +(if|for|while|switch|else|return|do)\\b.*")) {
                continue;
            }
            String indent = lines[i].substring(0, lines[i].length() - lines[i].stripLeading().length());
            int end = i;
            while (end < lines.length - 1 && !lines[end].equals(indent + "}")) {
                end++;
            }
            need(end - i <= 60, "a method of " + (end - i) + " lines: " + lines[i].trim());
        }
    }

    public static void main(String[] args) {
        tryFace();
        tryRules();
        System.out.println("FaceTest: " + asked + " answers, " + wrong + " wrong");
        if (wrong != 0) {
            System.exit(1);
        }
    }
}
