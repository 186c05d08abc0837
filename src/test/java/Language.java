import java.io.IOException;
import java.lang.reflect.Constructor;
import java.lang.reflect.Field;
import java.lang.reflect.Method;
import java.lang.reflect.Modifier;
import java.nio.charset.StandardCharsets;
import java.nio.file.Files;
import java.nio.file.Path;
import java.util.Arrays;
import java.util.Set;
import java.util.TreeSet;
import java.util.regex.Matcher;
import java.util.regex.Pattern;

/** The face of the class, as the document lists it, and the rules of LANGUAGE.md that its text alone can show. */
public final class Language {
    private static final String[] FACE = {
        "NONE: int", "BAD: int", "STATE: int", "FULL: int", "NO: long", "SummedBases()",
        "int base(int, int, int)", "int of(int, int)", "long worth(int, int, int)", "long top(int)", "int taken(int, int)",
        "int write(int, int, long)", "int empty(int)", "int told(int, int)", "int at(int, int)", "long value(int)",
        "int digit(int, int, int)", "int borrow(int, int)", "int carry(int, int)", "int settle(int)", "int right(int)",
        "int shift(int, int)", "int on(int, int)", "int soon(int, int)", "int sum(int, int, int, int)",
        "int like(int, int, int)", "long ways(int, long, int, int)", "int crossed(int, int, long)", "int print(int, int)",
        "int feed(int)", "int read(int, int)", "int back()", "int row(int, int)", "int put(int, int, long)",
        "long get(int, int)", "int copy(int, int, int, int, int)", "int lay(int, int, int)", "int film(int, int)",
        "int image()", "int undo()", "int count(int)"};

    private static final String[] NEVER = {
        "throw", "throws", "try", "catch", "finally", "synchronized", "assert", "import", "package", "protected", "volatile",
        "transient", "native", "strictfp", "Exact", "System\\.(?!arraycopy)", "Object", "Thread", "Random", "hashCode",
        "toString", "->", "::", "var"};

    /** Of the library the class takes no more than this; Long.MIN_VALUE is the document's own word for NO. */
    private static final Set<String> TAKEN = Set.of("System.arraycopy", "Math.min", "Math.max", "Long.MIN_VALUE");

    private static final int MOST_LINES = 60;
    private static final int MOST_PARAMETERS = 7;
    private static final int MOST_CLASSES = 12;
    private static final int MOST_FIELDS = 20;

    private static int wrong = 0;

    private static void tell(String what) {
        wrong++;
        System.out.println(what);
    }

    private static String parameters(Class<?>[] types) {
        StringBuilder all = new StringBuilder("(");
        for (Class<?> type : types) {
            all.append(all.length() > 1 ? ", " : "").append(type.getSimpleName());
        }
        return all.append(")").toString();
    }

    private static void checkFace() {
        Set<String> seen = new TreeSet<>();
        for (Field f : SummedBases.class.getDeclaredFields()) {
            if (!Modifier.isPrivate(f.getModifiers())) {
                seen.add(f.getName() + ": " + f.getType().getSimpleName());
                boolean constant = Modifier.isPublic(f.getModifiers()) && Modifier.isStatic(f.getModifiers())
                    && Modifier.isFinal(f.getModifiers());
                if (!constant) {
                    tell(f + " is no public constant");
                }
            }
        }
        for (Constructor<?> c : SummedBases.class.getDeclaredConstructors()) {
            seen.add("SummedBases" + parameters(c.getParameterTypes()));
        }
        Set<String> publicNames = new TreeSet<>();
        for (Method m : SummedBases.class.getDeclaredMethods()) {
            if (!Modifier.isPrivate(m.getModifiers())) {
                seen.add(m.getReturnType().getSimpleName() + " " + m.getName() + parameters(m.getParameterTypes()));
                publicNames.add(m.getName());
            }
        }
        if (!seen.equals(new TreeSet<>(Arrays.asList(FACE)))) {
            tell("the face is " + seen);
        }
        checkPrivateNames(SummedBases.class, publicNames);
        for (Class<?> c : SummedBases.class.getDeclaredClasses()) {
            checkPrivateNames(c, publicNames);
            checkInnerClass(c);
        }
        checkOwnFields(SummedBases.class);
        if (!Modifier.isFinal(SummedBases.class.getModifiers())) {
            tell("the class is not final");
        }
        if (SummedBases.class.getDeclaredClasses().length > MOST_CLASSES) {
            tell("too many classes");
        }
    }

    private static void checkPrivateNames(Class<?> c, Set<String> publicNames) {
        for (Method m : c.getDeclaredMethods()) {
            if (Modifier.isPrivate(m.getModifiers()) && publicNames.contains(m.getName())) {
                tell("a private method bears a public one's name: " + m);
            }
            if (m.isSynthetic()) {
                tell("a method that isn't written: " + m);
            }
            if (m.getParameterCount() > MOST_PARAMETERS) {
                tell("too many parameters: " + m);
            }
        }
    }

    private static void checkInnerClass(Class<?> c) {
        int modifiers = c.getModifiers();
        if (!Modifier.isStatic(modifiers) || Modifier.isPublic(modifiers) || Modifier.isProtected(modifiers)) {
            tell(c + " is not a static class of its own");
        }
        checkOwnFields(c);
    }

    private static void checkOwnFields(Class<?> c) {
        int own = 0;
        for (Field f : c.getDeclaredFields()) {
            boolean constant = Modifier.isStatic(f.getModifiers());
            own += constant ? 0 : 1;
            if (constant && !Modifier.isFinal(f.getModifiers())) {
                tell("static state: " + f);
            }
        }
        if (own > MOST_FIELDS) {
            tell(c + " has too many fields");
        }
    }

    /** The text without what its comments say. */
    private static String bare(String text) {
        return text.replaceAll("(?s)/\\*.*?\\*/", "").replaceAll("//[^\n]*", "");
    }

    private static void checkText(String text) {
        for (int i = 0; i < text.length(); i++) {
            if (text.charAt(i) > 126 || text.charAt(i) < ' ' && text.charAt(i) != '\n') {
                tell("a sign that may not stand in the text, at " + i);
            }
        }
        for (String never : NEVER) {
            String edge = never.matches("[a-z]+") ? "\\b" : "";
            Matcher m = Pattern.compile(edge + never + edge).matcher(text);
            if (m.find()) {
                tell("'" + m.group() + "' may not stand in the text");
            }
        }
        checkLibrary(text);
        if (text.contains("\"")) {
            tell("a text stands in the class, which needs none");
        }
        for (String made : new String[] {"public", "private"}) {
            checkNewOnlyInConstructors(text, made);
        }
    }

    /** A name of the library stands ahead of a point: the class names its own classes so only for their constants. */
    private static void checkLibrary(String text) {
        Set<String> own = new TreeSet<>();
        for (Class<?> c : SummedBases.class.getDeclaredClasses()) {
            own.add(c.getSimpleName());
        }
        Matcher m = Pattern.compile("\\b([A-Z][a-z]\\w*)\\.(\\w+)").matcher(text);
        while (m.find()) {
            if (!own.contains(m.group(1)) && !TAKEN.contains(m.group())) {
                tell(m.group() + " is not of the library that may be taken");
            }
        }
    }

    /** What a run makes is counted: all is made with the object, nothing by a call. */
    private static void checkNewOnlyInConstructors(String text, String made) {
        String method = "\n    " + made + " [a-zA-Z\\[\\] ]+ [a-z][a-zA-Z]*\\([^)]*\\) \\{\n(.*?)\n    \\}\n";
        Matcher m = Pattern.compile(method, Pattern.DOTALL).matcher(text);
        while (m.find()) {
            if (m.group(1).contains("new ") && !m.group().contains(" class ")) {
                tell("a call makes something: " + m.group());
            }
        }
    }

    private static void checkLengths(String text) {
        String[] lines = text.split("\n");
        for (int i = 0; i < lines.length; i++) {
            boolean opens = lines[i].matches("( {4}| {8})[a-z][a-zA-Z\\[\\] ]*\\([^)]*\\) \\{") && !lines[i].trim().matches("(if|for|while|switch).*");
            if (!opens) {
                continue;
            }
            String closing = lines[i].replaceAll("\\S.*", "") + "}";
            int end = i;
            while (end < lines.length && !lines[end].equals(closing)) {
                end++;
            }
            if (end - i >= MOST_LINES) {
                tell("a method of " + (end - i) + " lines: " + lines[i].trim());
            }
        }
    }

    public static void main(String[] args) throws IOException {
        String text = Files.readString(Path.of("src/main/java/SummedBases.java"), StandardCharsets.ISO_8859_1);
        checkFace();
        checkText(bare(text));
        checkLengths(bare(text));
        System.out.println(wrong == 0 ? "the face and the language are as they should be" : wrong + " faults");
        if (wrong != 0) {
            System.exit(1);
        }
    }
}
