import java.io.IOException;
import java.lang.reflect.Constructor;
import java.lang.reflect.Field;
import java.lang.reflect.Method;
import java.lang.reflect.Modifier;
import java.nio.file.Files;
import java.nio.file.Path;
import java.util.ArrayList;
import java.util.Arrays;
import java.util.HashSet;
import java.util.List;
import java.util.Set;
import java.util.TreeSet;
import java.util.regex.Pattern;

/** The document's face and what LANGUAGE.md asks that can be seen from the class and its text. */
public final class FaceTest {
    private static final Dues DUES = new Dues("FaceTest");
    private static final String[] FACE = {
        "hand int int", "handIs int int", "frost int int", "home int int", "homeIs int int", "person int int",
        "personIs int int", "become int int", "as int int", "jump int int", "feed long int", "text int", "untell int",
        "law int int int int", "minutes int", "loose int", "seed int", "markAt int int", "meet int int", "council",
        "soonest int int", "rooms int int", "watch int int int int", "best int int int", "odds int int int", "fits int",
        "voice int int int", "body int", "sheet int int int", "put int int int", "move int int int int int",
        "offsets int", "judge int", "image", "restore", "tell int", "check", "count int", "told int",
    };

    public static void main(String[] args) throws IOException {
        due("the class is public and final", Modifier.isPublic(HandTown.class.getModifiers())
            && Modifier.isFinal(HandTown.class.getModifiers()));
        due("the class has no package", HandTown.class.getPackageName().isEmpty());
        methods();
        constructors();
        fields();
        insideClasses();
        words();
        newRows();
        DUES.end();
    }

    private static void due(String what, boolean so) {
        DUES.due(what, so ? 1 : 0, 1);
    }

    private static String signature(Method method) {
        StringBuilder text = new StringBuilder(method.getName());
        for (Class<?> type : method.getParameterTypes()) {
            text.append(' ').append(type.getName());
        }
        return text.toString();
    }

    private static Set<String> publicNames() {
        Set<String> names = new HashSet<>();
        for (String signature : FACE) {
            names.add(signature.split(" ")[0]);
        }
        return names;
    }

    private static void methods() {
        Set<String> seen = new TreeSet<>();
        for (Method method : HandTown.class.getDeclaredMethods()) {
            if (Modifier.isPrivate(method.getModifiers())) {
                due("private, with a name of its own: " + method.getName(), !publicNames().contains(method.getName()));
                continue;
            }
            due("public: " + method, Modifier.isPublic(method.getModifiers()) && !Modifier.isStatic(method.getModifiers()));
            due("answers an int: " + method, method.getReturnType() == int.class);
            seen.add(signature(method));
        }
        due("the face " + seen, seen.equals(new TreeSet<>(Arrays.asList(FACE))));
    }

    private static void constructors() {
        Constructor<?>[] all = HandTown.class.getDeclaredConstructors();
        due("one constructor", all.length == 1);
        due("public, of nothing", Modifier.isPublic(all[0].getModifiers()) && all[0].getParameterCount() == 0);
    }

    private static void fields() {
        for (Field field : HandTown.class.getDeclaredFields()) {
            due("private: " + field, Modifier.isPrivate(field.getModifiers()));
        }
        List<Class<?>> all = new ArrayList<>(Arrays.asList(HandTown.class.getDeclaredClasses()));
        all.add(HandTown.class);
        for (Class<?> it : all) {
            int own = 0;
            for (Field field : it.getDeclaredFields()) {
                boolean isStatic = Modifier.isStatic(field.getModifiers());
                due("final: " + field, !isStatic || Modifier.isFinal(field.getModifiers()));
                own += isStatic ? 0 : 1;
            }
            due("some twenty fields at most: " + it, own <= 20);
        }
    }

    private static void insideClasses() {
        Class<?>[] all = HandTown.class.getDeclaredClasses();
        due("some twelve classes at most", all.length <= 11);
        for (Class<?> it : all) {
            due("static: " + it, Modifier.isStatic(it.getModifiers()) && !Modifier.isPublic(it.getModifiers()));
            due("with no class inside: " + it, it.getDeclaredClasses().length == 0);
            for (Method method : it.getDeclaredMethods()) {
                due("a name of its own: " + method, !publicNames().contains(method.getName()));
                due("at most seven parameters: " + method, method.getParameterCount() <= 7);
            }
        }
    }

    private static String source() throws IOException {
        return Files.readString(Path.of("src/main/java/HandTown.java"));
    }

    /** The program's text without its comments and its characters and texts in quotes. */
    private static String code() throws IOException {
        String code = source().replaceAll("(?s)/\\*.*?\\*/", " ").replaceAll("//[^\n]*", " ");
        return code.replaceAll("'(\\\\.|[^'\\\\])'", "0").replaceAll("\"[^\"\n]*\"", "\"\"");
    }

    private static void words() throws IOException {
        String code = code();
        String[] banned = {
            "throw", "throws", "try", "catch", "finally", "synchronized", "assert", "import", "package", "var", "protected",
            "volatile", "transient", "native", "instanceof", "double", "float", "Object", "Thread", "Random", "equals",
            "hashCode", "toString", "getClass",
        };
        for (String word : banned) {
            due("without " + word, !Pattern.compile("\\b" + word + "\\b").matcher(code).find());
        }
        for (String sign : new String[] {"->", "::", "\"\" +", "+ \"\"", "@", "Exact"}) {
            due("without " + sign, !code.contains(sign));
        }
        Set<String> library = new TreeSet<>();
        var matcher = Pattern.compile("\\b(Math|Integer|Long|System|Arrays|String|Character)\\.(\\w+)").matcher(code);
        while (matcher.find()) {
            library.add(matcher.group());
        }
        Set<String> known = Set.of("Math.abs", "Math.min", "Math.max", "Math.floorMod", "Integer.bitCount", "System.arraycopy");
        due("no library but what is listed: " + library, known.containsAll(library));
        due("letters of 1 to 126 alone", source().chars().allMatch(c -> c == '\n' || c >= ' ' && c < 127));
    }

    /** Rows and objects are made in fields alone, so that calls make none. */
    private static void newRows() throws IOException {
        Pattern field = Pattern.compile("^ +(private )?final [\\w\\[\\]]+ \\w+ = .*;$");
        for (String line : code().split("\n")) {
            if (Pattern.compile("\\bnew\\b").matcher(line).find()) {
                due("made with the object: " + line.trim(), field.matcher(line).matches());
            }
        }
    }
}
