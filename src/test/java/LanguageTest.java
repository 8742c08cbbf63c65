import java.io.IOException;
import java.lang.reflect.Executable;
import java.lang.reflect.Field;
import java.lang.reflect.Method;
import java.lang.reflect.Modifier;
import java.nio.file.Files;
import java.nio.file.Path;
import java.util.ArrayList;
import java.util.Arrays;
import java.util.HashSet;
import java.util.List;
import java.util.Set;
import java.util.TreeSet;
import java.util.regex.Matcher;
import java.util.regex.Pattern;

/** The face of the document, and those rules of LANGUAGE.md that can be seen from the text or the class. */
final class LanguageTest {
    private static final String[] FACE = {
        "int room(int,int,int)", "int made(int,int,int)", "int outside(int,int,int)", "int weather(int,int)",
        "int holds(int)", "int wall(int,int,int,boolean)", "int wallOf(int,int)", "int dry(int)", "int clean(int)",
        "int wet(int)", "int reading(int,int,int,int)", "int cause(int,int,int,int)", "int truth(int,boolean)",
        "int hours(int)", "long off(int)", "int tale(int,int)", "int best()", "int simple(int)", "int rivals()",
        "int look(int,int)", "int answer(int,boolean)", "int next()", "int plan()",
        "int trial(int,int,int,int,int)", "int trialOf(int,int)", "int flat(int,int,int,int)", "int joins()",
        "int chance(int)", "int rule(int,int,int,int)", "int child(boolean)", "int word(boolean,int,boolean)",
        "int due(int,int)", "int quarrel(int)", "int count(int)"};
    private static final String[] BARRED = {"->", "::", "finally", "synchronized", "assert", "Exact", "catch",
        "protected", "package", "double", "float", "native", "volatile", "transient", "System", "hashCode",
        "toString", "getClass", "Object", "@", "var"};
    private static final Set<String> IMPORTS = Set.of("java.util.ArrayList", "java.util.Arrays", "java.util.Iterator",
            "java.util.List", "java.util.NoSuchElementException");

    public static void main(String[] args) throws IOException {
        List<Class<?>> classes = new ArrayList<>(List.of(DampHouse.class));
        classes.addAll(Arrays.asList(DampHouse.class.getDeclaredClasses()));
        face();
        for (Class<?> each : classes) {
            members(each);
        }
        Check.dueThat("some twelve classes", classes.size() <= 13);
        String text = Files.readString(Path.of("src/main/java/DampHouse.java"));
        words(withoutComments(text));
        methodLengths(text);
        Check.finish();
    }

    private static void face() {
        Set<String> found = new TreeSet<>();
        for (Method m : DampHouse.class.getDeclaredMethods()) {
            if (!Modifier.isPrivate(m.getModifiers())) {
                found.add(m.getReturnType() + " " + m.getName() + parameters(m));
                Check.dueThat(m + " is public and no static", Modifier.isPublic(m.getModifiers())
                        && !Modifier.isStatic(m.getModifiers()));
            }
        }
        Check.dueThat("the face is the document's: " + found, found.equals(new TreeSet<>(Arrays.asList(FACE))));
        int modifiers = DampHouse.class.getModifiers();
        Check.dueThat("public and final", Modifier.isPublic(modifiers) && Modifier.isFinal(modifiers));
        Check.due("constructors", DampHouse.class.getDeclaredConstructors().length, 1);
        Check.due("public constructors", DampHouse.class.getConstructors().length, 1);
        for (Field f : DampHouse.class.getDeclaredFields()) {
            Check.dueThat(f + " is private", Modifier.isPrivate(f.getModifiers()));
        }
        Check.dueThat("no package", DampHouse.class.getPackageName().isEmpty());
    }

    private static String parameters(Executable m) {
        List<String> names = new ArrayList<>();
        for (Class<?> type : m.getParameterTypes()) {
            names.add(type.getName());
        }
        return "(" + String.join(",", names) + ")";
    }

    private static void members(Class<?> each) {
        Set<String> faceNames = new HashSet<>();
        for (String line : FACE) {
            faceNames.add(line.substring(line.indexOf(' ') + 1, line.indexOf('(')));
        }
        boolean outer = each == DampHouse.class;
        for (Method m : each.getDeclaredMethods()) {
            boolean faceMethod = outer && Modifier.isPublic(m.getModifiers());
            Check.dueThat(m + " bears no name of the face", faceMethod || !faceNames.contains(m.getName()));
            Check.dueThat(m + " takes seven at most", m.getParameterCount() <= 7);
        }
        int fields = 0;
        for (Field f : each.getDeclaredFields()) {
            boolean fixed = Modifier.isStatic(f.getModifiers());
            fields += fixed ? 0 : 1;
            Check.dueThat(f + " is final if it is static", !fixed || Modifier.isFinal(f.getModifiers()));
        }
        Check.dueThat(each + " has some twenty fields", fields <= 20);
        int modifiers = each.getModifiers();
        Check.dueThat(each + " is static and not public", outer
                || Modifier.isStatic(modifiers) && !Modifier.isPublic(modifiers) && !Modifier.isProtected(modifiers));
    }

    private static String withoutComments(String text) {
        return text.replaceAll("(?s)/\\*.*?\\*/", "").replaceAll("//[^\n]*", "").replaceAll("\"[^\"\n]*\"", "\"\"");
    }

    private static void words(String code) {
        for (String barred : BARRED) {
            String pattern = barred.matches("\\w+") ? "\\b" + barred + "\\b" : Pattern.quote(barred);
            Check.dueThat("no " + barred, !Pattern.compile(pattern).matcher(code).find());
        }
        Matcher imports = Pattern.compile("import ([\\w.*]+);").matcher(code);
        while (imports.find()) {
            Check.dueThat("import " + imports.group(1), IMPORTS.contains(imports.group(1)));
        }
        Matcher thrown = Pattern.compile("throw ([^;]*);").matcher(code);
        while (thrown.find()) {
            Check.dueThat("throw " + thrown.group(1),
                    thrown.group(1).equals("new IllegalArgumentException(\"\")"));
        }
        Matcher arrays = Pattern.compile("\\bArrays\\.(\\w+)").matcher(code);
        while (arrays.find()) {
            Check.dueThat("Arrays." + arrays.group(1), Set.of("fill", "copyOf", "copyOfRange").contains(arrays.group(1)));
        }
        Check.dueThat("signs 1 to 127", code.chars().allMatch(c -> c > 0 && c < 128));
    }

    private static void methodLengths(String text) {
        List<String> lines = Arrays.asList(text.split("\n"));
        Pattern header = Pattern.compile("( {4}| {8})\\S.*\\) (throws \\w+ )?\\{");
        for (int i = 0; i < lines.size(); i++) {
            Matcher found = header.matcher(lines.get(i));
            if (found.matches()) {
                int length = lines.subList(i, lines.size()).indexOf(found.group(1) + "}");
                Check.dueThat("some sixty lines:" + lines.get(i), length <= 60);
            }
        }
    }
}
