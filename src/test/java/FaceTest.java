import java.io.IOException;
import java.lang.reflect.Constructor;
import java.lang.reflect.Field;
import java.lang.reflect.Method;
import java.lang.reflect.Modifier;
import java.nio.file.Files;
import java.nio.file.Path;
import java.util.Set;
import java.util.TreeSet;
import java.util.regex.Matcher;
import java.util.regex.Pattern;

/** The face is the document's and no wider, and the source keeps to what a text search can see of LANGUAGE.md. */
final class FaceTest {
    private static final Saying SAY = new Saying();
    private static final String SOURCE = "src/main/java/RiverVows.java";
    private static final String FACE = "int feed(long,long,long);int land();int vows();int will();int river(int,int);"
            + "int flow(int,int,int);int needs(int);int near(int,int);int dig(int,int);int may(int);int ends();"
            + "int wed(int,int);boolean part(int);int seasons(int);boolean undo();int judged(int);int worn(int,int);"
            + "int love(int);int hyphen(int);int match(int);int chain(int,int,int);int peace();int cathedral(int);"
            + "int eddies();int worst(int,int);int share(int,int,int);int storms(int,int);int walls(int,int,int);"
            + "boolean tell(int,int,int);int found(int);int rests(int,int,int,int);int dams(int,int,int);"
            + "int centuries(int,int,int);boolean mark(int,boolean);int count(int)";

    private FaceTest() { }

    public static void main(String[] args) throws IOException {
        methods();
        members();
        nestedClasses();
        source(Files.readString(Path.of(SOURCE)));
        SAY.end("FaceTest");
    }

    private static void methods() {
        Set<String> due = new TreeSet<>(Set.of(FACE.split(";")));
        Set<String> seen = new TreeSet<>();
        Set<String> names = new TreeSet<>();
        for (Method m : RiverVows.class.getDeclaredMethods()) {
            if (Modifier.isPublic(m.getModifiers())) {
                StringBuilder text = new StringBuilder(m.getReturnType() + " " + m.getName() + "(");
                for (Class<?> p : m.getParameterTypes()) {
                    text.append(text.charAt(text.length() - 1) == '(' ? "" : ",").append(p);
                }
                seen.add(text.append(")").toString());
                names.add(m.getName());
            }
        }
        SAY.due("public methods " + seen, seen.equals(due), true);
        for (Class<?> c : RiverVows.class.getDeclaredClasses()) {
            noNameOfTheFace(c, names);
        }
        noNameOfTheFace(RiverVows.class, names);
    }

    private static void noNameOfTheFace(Class<?> c, Set<String> names) {
        for (Method m : c.getDeclaredMethods()) {
            boolean clash = !Modifier.isPublic(m.getModifiers()) && names.contains(m.getName());
            SAY.due(c + ": " + m.getName() + " bears a name of the face", clash, false);
        }
    }

    private static void members() {
        SAY.due("final", Modifier.isFinal(RiverVows.class.getModifiers()), true);
        Constructor<?>[] made = RiverVows.class.getDeclaredConstructors();
        SAY.due("constructors", made.length, 1);
        SAY.due("parameters of it", made[0].getParameterCount(), 0);
        for (Field f : RiverVows.class.getDeclaredFields()) {
            boolean hidden = Modifier.isPrivate(f.getModifiers()) || f.isSynthetic();
            SAY.due("field " + f.getName(), hidden, !f.getName().equals("NONE"));
        }
        for (Method m : RiverVows.class.getDeclaredMethods()) {
            int mods = m.getModifiers();
            SAY.due("method " + m.getName(), Modifier.isPublic(mods) || Modifier.isPrivate(mods), true);
        }
    }

    private static void nestedClasses() {
        Class<?>[] inside = RiverVows.class.getDeclaredClasses();
        SAY.due("some twelve classes", inside.length <= 12, true);
        for (Class<?> c : inside) {
            int mods = c.getModifiers();
            SAY.due(c + " is private and static", Modifier.isPrivate(mods) && Modifier.isStatic(mods), true);
            int fields = 0;
            for (Field f : c.getDeclaredFields()) {
                boolean still = Modifier.isStatic(f.getModifiers());
                fields += still ? 0 : 1;
                SAY.due(f + " is final if it is static", !still || Modifier.isFinal(f.getModifiers()), true);
            }
            SAY.due(c + " has some twenty fields", fields <= 20, true);
        }
    }

    private static void source(String text) {
        String bare = text.replaceAll("(?s)/\\*.*?\\*/", "").replaceAll("//[^\n]*", "");
        for (String word : new String[] {"->", "::", "@", "\\btry\\b", "\\bcatch\\b", "\\bfinally\\b", "\\bassert\\b",
            "\\bsynchronized\\b", "\\bdouble\\b", "\\bfloat\\b", "\\bvar\\b", "Exact\\b", "\\bSystem\\.(?!arraycopy)",
            "\\bordinal\\b", "\\bhashCode\\b", "\\btoString\\b", "\\bRandom\\b", "\\bstatic\\s*\\{", "\\bpackage\\b",
            "while \\(true\\)", "for \\(;;", "\"\\s*\\+", "\\+\\s*\""}) {
            Matcher m = Pattern.compile(word).matcher(bare);
            SAY.due("the source has " + word, m.find(), false);
        }
        Matcher imports = Pattern.compile("import ([^;]*);").matcher(bare);
        while (imports.find()) {
            SAY.due(imports.group(), imports.group(1).equals("java.util.NoSuchElementException"), true);
        }
        Matcher thrown = Pattern.compile("throw [^;]*;").matcher(bare);
        while (thrown.find()) {
            SAY.due(thrown.group(), thrown.group().matches("throw new NoSuchElementException\\(\"[^\"]*\"\\);"), true);
        }
        SAY.due("signs of 1 to 127 alone", text.chars().allMatch(c -> c > 0 && c < 128), true);
        shortMethods(text);
    }

    /** A method opens at four or eight blanks and ends with a brace there. */
    private static void shortMethods(String text) {
        String[] lines = text.split("\n");
        for (String indent : new String[] {"    ", "        "}) {
            int begun = -1;
            for (int i = 0; i < lines.length; i++) {
                if (lines[i].matches(indent + "[a-zA-Z].*\\(.*\\{") && !lines[i].contains(" class ")) {
                    begun = i;
                } else if (lines[i].equals(indent + "}") && begun >= 0) {
                    SAY.due("lines of " + lines[begun].trim(), i - begun <= 60, true);
                    begun = -1;
                }
            }
        }
    }
}
