import java.lang.reflect.Constructor;
import java.lang.reflect.Field;
import java.lang.reflect.Method;
import java.lang.reflect.Modifier;
import java.nio.file.Files;
import java.nio.file.Path;
import java.util.HashSet;
import java.util.Set;
import java.util.TreeSet;
import java.util.regex.Matcher;
import java.util.regex.Pattern;

/** Rules of LANGUAGE.md that can be seen from the source and from the class itself. */
public final class LanguageTest {
    private static final String FACE = "hold as of run shut outside cold man where go hear stay pass food reach whistle"
        + " force take guard work stock part last least feed text wipe shares between barred why rumour out squads"
        + " believe feint copyTerm unlike sign list want move play best judge tick book check sheet write copy image"
        + " undo tear count status";

    public static void main(String[] args) throws Exception {
        face();
        classesInside();
        source(Files.readString(Path.of("src/main/java/SitDown.java")));
        Due.end();
    }

    private static void face() {
        Set<String> seen = new TreeSet<>();
        for (Method m : SitDown.class.getDeclaredMethods()) {
            boolean isPrivate = Modifier.isPrivate(m.getModifiers());
            if (!isPrivate) {
                Due.is("rule 1 public " + m, Modifier.isPublic(m.getModifiers()) ? 1 : 0, 1);
                seen.add(m.getName());
            }
        }
        Due.is("rule 1 the face", seen.equals(new TreeSet<>(Set.of(FACE.split(" ")))) ? 1 : 0, 1);
        for (Field f : SitDown.class.getDeclaredFields()) {
            Due.is("rule 1 private " + f, Modifier.isPrivate(f.getModifiers()) ? 1 : 0, 1);
        }
        for (Constructor<?> c : SitDown.class.getDeclaredConstructors()) {
            Due.is("rule 1 constructor", c.getParameterCount(), 0);
        }
        Due.is("rule 1 final", Modifier.isFinal(SitDown.class.getModifiers()) ? 1 : 0, 1);
        Due.is("rule 1 no package", SitDown.class.getPackageName().length(), 0);
    }

    private static void classesInside() {
        Class<?>[] inside = SitDown.class.getDeclaredClasses();
        Due.is("rule 11 classes", inside.length < 12 ? 1 : 0, 1);
        Set<String> face = new HashSet<>(Set.of(FACE.split(" ")));
        for (Class<?> c : inside) {
            Due.is("rule 1 static " + c, Modifier.isStatic(c.getModifiers()) ? 1 : 0, 1);
            for (Method m : c.getDeclaredMethods()) {
                Due.is("rule 1 name of " + m, face.contains(m.getName()) ? 0 : 1, 1);
            }
            members(c);
        }
        members(SitDown.class);
        for (Method m : SitDown.class.getDeclaredMethods()) {
            boolean isTwice = face.contains(m.getName()) && Modifier.isPrivate(m.getModifiers());
            Due.is("rule 1 name of " + m, isTwice ? 0 : 1, 1);
        }
    }

    private static void members(Class<?> c) {
        int fields = 0;
        for (Field f : c.getDeclaredFields()) {
            boolean isStatic = Modifier.isStatic(f.getModifiers());
            fields += isStatic ? 0 : 1;
            Due.is("rule 5 final " + f, isStatic && !Modifier.isFinal(f.getModifiers()) ? 0 : 1, 1);
        }
        Due.is("rule 11 fields of " + c, fields <= 20 ? 1 : 0, 1);
        for (Method m : c.getDeclaredMethods()) {
            Due.is("rule 11 parameters of " + m, m.getParameterCount() <= 7 ? 1 : 0, 1);
        }
    }

    private static void source(String text) {
        String code = text.replaceAll("(?s)/\\*.*?\\*/", "").replaceAll("//[^\n]*", "");
        String bare = code.replaceAll("\"[^\"\n]*\"", "\"\"").replaceAll("'[^'\n]'", "' '");
        String[] words = {
            "throw", "throws", "try", "catch", "synchronized", "assert", "hashCode", "toString", "import", "package",
            "native", "volatile", "protected", "super", "double", "float",
        };
        for (String word : words) {
            Due.is("rule 6 " + word, Pattern.compile("\\b" + word + "\\b").matcher(bare).find() ? 1 : 0, 0);
        }
        Due.is("rule 2 lambda", bare.contains("->") || bare.contains("::") ? 1 : 0, 0);
        Due.is("rule 10 texts joined by +", bare.contains("\"\" +") || bare.contains("+ \"\"") ? 1 : 0, 0);
        Due.is("rule 4 signs", text.chars().allMatch(c -> c > 0 && c < 128) ? 1 : 0, 1);
        Matcher call = Pattern.compile("\\b(Math|Integer|System|Long|Arrays)\\.(\\w+)").matcher(bare);
        Set<String> library = new TreeSet<>();
        while (call.find()) {
            library.add(call.group());
        }
        library.removeAll(Set.of("Math.max", "Math.min", "Integer.bitCount", "System.arraycopy"));
        Due.is("rule 4 library " + library, library.size(), 0);
        int lines = 0;
        for (String line : code.split("\n")) {
            lines = line.matches(" {4,8}}") || line.isBlank() ? 0 : lines + 1;
            Due.is("rule 11 short methods: " + line, lines <= 60 || line.contains("final") ? 1 : 0, 1);
        }
    }
}
