import java.io.IOException;
import java.lang.reflect.Constructor;
import java.lang.reflect.Field;
import java.lang.reflect.Method;
import java.lang.reflect.Modifier;
import java.nio.file.Files;
import java.nio.file.Paths;
import java.util.Arrays;
import java.util.Set;
import java.util.TreeSet;
import java.util.regex.Matcher;
import java.util.regex.Pattern;

/** Those rules of ../shared/LANGUAGE.md that can be told by words of the source and by the compiled face. */
public final class SourceRulesTest {
    private static final String SOURCE = "src/main/java/WishPins.java";
    private static final String FACE = "public static final int UNKNOWN; public static final int OUTSIDE;"
        + " public static final int STATE; public static final int FULL; public static final int NONE;"
        + " public static final long LOST; public WishPins();"
        + " public int well(int,int,int,int); public int ofPin(int,int); public int bend(int,int);"
        + " public int rekey(int,int); public int wished(int); public int throwIn(int,int); public int fish();"
        + " public int years(int); public int century(int,int,int,int,int); public int quiet(int);"
        + " public int run(int); public int shape(int,int); public int layers(int,int,int,int);"
        + " public int reading(int,int); public int back(int); public int bends(int); public int kinds(int);"
        + " public int keys(int); public long odds(int,int,int); public int sheet(int,int,int);"
        + " public int lose(int); public int put(int,int,int); public long cell(int,int,int);"
        + " public int copy(int,int,int,int,int); public int tell(int); public int splash(int);"
        + " public int as(int,int); public int trace(); public int fault(); public int many(int);";
    private static int wrong = 0;

    public static void main(String[] args) throws IOException {
        words(bare(Files.readString(Paths.get(SOURCE))));
        face();
        nested();
        sizes();
        System.out.println(wrong == 0 ? "SourceRulesTest: all as due" : "SourceRulesTest: " + wrong + " not as due");
        if (wrong != 0) {
            System.exit(1);
        }
    }

    private static void wrong(String what) {
        wrong++;
        System.out.println(what);
    }

    private static String bare(String source) {
        return source.replaceAll("(?s)/\\*.*?\\*/", " ").replaceAll("//[^\n]*", " ").replaceAll("'(\\\\.|[^'\\\\])'", "0");
    }

    private static void words(String bare) {
        Matcher forbidden = Pattern.compile("\\b(throw|throws|try|catch|synchronized|assert|import|package|volatile"
            + "|float|double|Object|Random|Thread|hashCode|toString|equals|\\w*Exact|\\w*Exception)\\b|->|::|@|\"")
            .matcher(bare);
        while (forbidden.find()) {
            wrong("not in LANGUAGE.md: " + forbidden.group());
        }
        Matcher library = Pattern.compile("\\b(System|Math|Integer|Long|Arrays)\\.\\w+").matcher(bare);
        Set<String> taken = new TreeSet<>(Arrays.asList("System.arraycopy", "Math.min", "Math.max", "Math.floorMod",
            "Long.MIN_VALUE"));
        while (library.find()) {
            if (!taken.contains(library.group())) {
                wrong("look it up in LANGUAGE.md: " + library.group());
            }
        }
    }

    private static void face() {
        Set<String> due = new TreeSet<>();
        for (String member : FACE.split(";")) {
            due.add(member.trim());
        }
        Set<String> is = new TreeSet<>();
        for (Field f : WishPins.class.getDeclaredFields()) {
            if (!Modifier.isPrivate(f.getModifiers())) {
                is.add(Modifier.toString(f.getModifiers()) + " " + f.getType() + " " + f.getName());
            }
        }
        for (Constructor<?> c : WishPins.class.getDeclaredConstructors()) {
            is.add(Modifier.toString(c.getModifiers()) + " WishPins(" + types(c.getParameterTypes()) + ")");
        }
        for (Method m : WishPins.class.getDeclaredMethods()) {
            if (!Modifier.isPrivate(m.getModifiers())) {
                is.add(Modifier.toString(m.getModifiers()) + " " + m.getReturnType() + " " + m.getName() + "("
                    + types(m.getParameterTypes()) + ")");
            }
        }
        if (!is.equals(due)) {
            wrong("the face is " + is + ", due is " + due);
        }
        int modifiers = WishPins.class.getModifiers();
        if (!Modifier.isPublic(modifiers) || !Modifier.isFinal(modifiers)) {
            wrong("WishPins is not public and final");
        }
    }

    private static String types(Class<?>[] types) {
        StringBuilder out = new StringBuilder();
        for (Class<?> type : types) {
            out.append(out.length() == 0 ? "" : ",").append(type);
        }
        return out.toString();
    }

    private static void nested() {
        Set<String> publicNames = new TreeSet<>();
        for (Method m : WishPins.class.getDeclaredMethods()) {
            if (Modifier.isPublic(m.getModifiers())) {
                publicNames.add(m.getName());
            }
        }
        for (Method m : WishPins.class.getDeclaredMethods()) {
            if (!Modifier.isPublic(m.getModifiers()) && publicNames.contains(m.getName())) {
                wrong("a private method with a public one's name: " + m);
            }
        }
        for (Class<?> c : WishPins.class.getDeclaredClasses()) {
            if (!Modifier.isStatic(c.getModifiers()) || Modifier.isPublic(c.getModifiers())) {
                wrong("not static, or public: " + c);
            }
            for (Method m : c.getDeclaredMethods()) {
                if (publicNames.contains(m.getName())) {
                    wrong("a method with a public one's name: " + m);
                }
            }
        }
        if (WishPins.class.getDeclaredClasses().length > 11) {
            wrong("too many classes");
        }
    }

    private static void sizes() {
        size(WishPins.class);
        for (Class<?> c : WishPins.class.getDeclaredClasses()) {
            size(c);
        }
    }

    private static void size(Class<?> c) {
        int fields = 0;
        for (Field f : c.getDeclaredFields()) {
            if (!Modifier.isStatic(f.getModifiers())) {
                fields++;
            } else if (!Modifier.isFinal(f.getModifiers())) {
                wrong("static and not final: " + f);
            }
        }
        if (fields > 20) {
            wrong("too many fields: " + c);
        }
        for (Method m : c.getDeclaredMethods()) {
            if (m.getParameterCount() > 7) {
                wrong("too many parameters: " + m);
            }
        }
    }
}
