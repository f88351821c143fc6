import java.io.DataInputStream;
import java.io.IOException;
import java.lang.reflect.Executable;
import java.lang.reflect.Field;
import java.lang.reflect.Method;
import java.lang.reflect.Modifier;
import java.nio.file.Files;
import java.nio.file.Path;
import java.util.ArrayList;
import java.util.Collections;
import java.util.List;
import java.util.Set;
import java.util.TreeSet;
import java.util.regex.Matcher;
import java.util.regex.Pattern;

/** Those rules of ../shared/LANGUAGE.md that the class files and the lines of the source show. */
public final class LanguageTest {
    private static final Path SOURCE = Path.of("src/main/java/NumberTower.java");
    private static final Set<String> LIBRARY = Set.of(
            "java/lang/Object.<init>", "java/lang/Math.max", "java/lang/Math.min", "java/lang/Math.abs",
            "java/lang/Math.floorDiv", "java/lang/Math.floorMod", "java/lang/Long.compare", "java/lang/Long.bitCount",
            "java/lang/System.arraycopy", "java/util/Arrays.fill", "java/lang/IllegalArgumentException.<init>",
            "java/lang/ArithmeticException.<init>", "java/lang/IllegalStateException.<init>");
    private static final Set<Class<?>> CONSTANTS =
            Set.of(int.class, long.class, boolean.class, char.class, String.class);
    private static final Pattern KEPT_OUT =
            Pattern.compile("\\b(try|catch|finally|assert|synchronized|native|goto)\\b|->|::");
    private static final int CLASSES = 12;
    private static final int FIELDS = 20;
    private static final int PARAMETERS = 7;
    private static final int LINES = 60;

    public static void main(String[] args) throws IOException {
        List<Class<?>> all = new ArrayList<>(List.of(NumberTower.class.getDeclaredClasses()));
        all.add(NumberTower.class);
        Bench.due("more than " + CLASSES + " classes", all.size() > CLASSES, false);
        for (Class<?> c : all) {
            lookAtLibrary(c);
            lookAtFields(c);
            lookAtMethods(c);
        }
        List<String> lines = Files.readAllLines(SOURCE);
        lookAtWords(lines);
        lookAtLengths(lines);
        Bench.end("LanguageTest");
    }

    /** Rule 4, and of rule 6 which exceptions are made. */
    private static void lookAtLibrary(Class<?> c) throws IOException {
        for (String member : membersNamedBy(c)) {
            boolean own = member.startsWith("NumberTower");
            Bench.due(c.getName() + " uses " + member, own || LIBRARY.contains(member), true);
        }
    }

    /** The fields and methods that a class file names, as "java/lang/Math.max". */
    private static Set<String> membersNamedBy(Class<?> c) throws IOException {
        Set<String> members = new TreeSet<>();
        try (DataInputStream in = new DataInputStream(c.getResourceAsStream(c.getName() + ".class"))) {
            in.skipNBytes(8);
            int count = in.readUnsignedShort();
            String[] texts = new String[count];
            int[] first = new int[count];
            int[] second = new int[count];
            int[] tags = new int[count];
            for (int i = 1; i < count; i++) {
                tags[i] = in.readUnsignedByte();
                switch (tags[i]) {
                    case 1: texts[i] = in.readUTF(); break;
                    case 3: case 4: in.skipNBytes(4); break;
                    case 5: case 6: in.skipNBytes(8); i++; break;
                    case 7: case 8: first[i] = in.readUnsignedShort(); break;
                    case 9: case 10: case 11: case 12:
                        first[i] = in.readUnsignedShort();
                        second[i] = in.readUnsignedShort();
                        break;
                    default: throw new IOException("a constant that no plain class has: " + tags[i]);
                }
            }
            for (int i = 1; i < count; i++) {
                if (tags[i] >= 9 && tags[i] <= 11) {
                    members.add(texts[first[first[i]]] + "." + texts[first[second[i]]]);
                }
            }
        }
        return members;
    }

    /** Rule 5, and of rule 11 how many fields. */
    private static void lookAtFields(Class<?> c) {
        int held = 0;
        for (Field f : c.getDeclaredFields()) {
            if (Modifier.isStatic(f.getModifiers())) {
                boolean constant = Modifier.isFinal(f.getModifiers()) && CONSTANTS.contains(f.getType());
                Bench.due("static " + f, constant, true);
            } else {
                held++;
            }
        }
        Bench.due(c + " has more than " + FIELDS + " fields", held > FIELDS, false);
    }

    /** Of rule 1 the names of methods that are not public, of rule 11 how many parameters. */
    private static void lookAtMethods(Class<?> c) {
        Set<String> face = new TreeSet<>();
        for (Method m : NumberTower.class.getDeclaredMethods()) {
            if (Modifier.isPublic(m.getModifiers())) {
                face.add(m.getName());
            }
        }
        List<Executable> all = new ArrayList<>(List.of(c.getDeclaredMethods()));
        Collections.addAll(all, c.getDeclaredConstructors());
        for (Executable m : all) {
            Bench.due("parameters of " + m, m.getParameterCount() > PARAMETERS, false);
            boolean named = !Modifier.isPublic(m.getModifiers()) && face.contains(m.getName());
            Bench.due("named as one of the face: " + m, named, false);
        }
    }

    /** Of rule 3 the characters, of rules 2 and 6 the words that do not stand in the code. */
    private static void lookAtWords(List<String> lines) {
        boolean comment = false;
        for (int i = 0; i < lines.size(); i++) {
            String line = lines.get(i);
            Bench.due("line " + (i + 1) + " is plain", line.chars().allMatch(ch -> ch >= 32 && ch <= 126), true);
            comment = comment || line.strip().startsWith("/*");
            Matcher word = KEPT_OUT.matcher(line);
            if (!comment && word.find()) {
                Bench.due("line " + (i + 1) + " has", word.group(), "none of such words");
            }
            comment = comment && !line.endsWith("*/");
        }
    }

    /** Of rule 11 how long: each block of a class or of a method, from its first line to the } under it. */
    private static void lookAtLengths(List<String> lines) {
        for (int i = 0; i < lines.size(); i++) {
            String line = lines.get(i);
            if (line.endsWith("{") && !line.contains("class ")) {
                String head = line.strip().startsWith("throws") ? lines.get(i - 1) : line;
                String end = " ".repeat(head.length() - head.stripLeading().length()) + "}";
                int last = i;
                while (last < lines.size() && !lines.get(last).startsWith(end)) {
                    last++;
                }
                Bench.due("too many lines from " + (i + 1) + " on", last - i > LINES, false);
            }
        }
    }
}
