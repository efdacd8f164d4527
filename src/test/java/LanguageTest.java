import java.lang.reflect.Constructor;
import java.lang.reflect.Field;
import java.lang.reflect.Method;
import java.lang.reflect.Modifier;
import java.nio.file.Files;
import java.nio.file.Path;
import java.util.ArrayList;
import java.util.List;
import java.util.Set;
import java.util.TreeSet;
import java.util.regex.Matcher;
import java.util.regex.Pattern;

/** The document's face, and those rules of LANGUAGE.md that a program can look at. Runs where src stands. */
public final class LanguageTest {
    private static final Due DUE = new Due("LanguageTest");
    private static final String FACE = "first(int,int,int)int second(int,int,int)int reading(int,int,int,int)int "
            + "back(int,int,int,int)int found(int)int point(int,int,int,int,int,int)int fit(int,int,int)long "
            + "miss(int)int forget()int correct(int,int,int,int)int turn(int,boolean)int swap(int)int drop()int "
            + "raw(int,int,int,int,int)int corrected(int,int)long touches(int)int minds(int)int place(int,int)int "
            + "done(int,boolean)int moves(int,int)int least()int order(int)int rule(int,int,int,int)int "
            + "come(int,int,int)int settled(int)int anew()int tube(int)int press(int,boolean,int)int "
            + "sheet(int,int,int)int lay(int,int,int)int scan(int,int,int)int force()int check(int,int)int "
            + "fill(int)int count(int)int";

    public static void main(String[] args) throws Exception {
        theFace();
        classesInside();
        String source = Files.readString(Path.of("src/main/java/WindHall.java"));
        words(source);
        lengths(source);
        DUE.end();
    }

    private static void theFace() {
        Set<String> due = new TreeSet<>(List.of(FACE.split(" ")));
        Set<String> have = new TreeSet<>();
        Set<String> names = new TreeSet<>();
        for (Method m : WindHall.class.getDeclaredMethods()) {
            if (!Modifier.isPrivate(m.getModifiers())) {
                have.add(signature(m));
                names.add(m.getName());
            }
        }
        rule(1, "the methods " + have, have.equals(due));
        rule(1, "the class is public and final",
                Modifier.isPublic(WindHall.class.getModifiers()) && Modifier.isFinal(WindHall.class.getModifiers()));
        Constructor<?>[] constructors = WindHall.class.getDeclaredConstructors();
        rule(1, "one constructor", constructors.length == 1 && constructors[0].getParameterCount() == 0
                && Modifier.isPublic(constructors[0].getModifiers()));
        Set<String> constants = new TreeSet<>();
        for (Field f : WindHall.class.getDeclaredFields()) {
            if (!Modifier.isPrivate(f.getModifiers())) {
                constants.add(f.getName());
            }
        }
        rule(1, "the constants " + constants, constants.equals(Set.of("BAD", "STATE", "FULL", "NONE")));
        for (Class<?> c : allClasses()) {
            for (Method m : c.getDeclaredMethods()) {
                boolean ofTheFace = c == WindHall.class && !Modifier.isPrivate(m.getModifiers());
                rule(1, "a second " + m.getName(), ofTheFace || !names.contains(m.getName()));
            }
        }
    }

    private static String signature(Method m) {
        List<String> types = new ArrayList<>();
        for (Class<?> type : m.getParameterTypes()) {
            types.add(type.getSimpleName());
        }
        return m.getName() + "(" + String.join(",", types) + ")" + m.getReturnType().getSimpleName();
    }

    private static List<Class<?>> allClasses() {
        List<Class<?>> all = new ArrayList<>(List.of(WindHall.class.getDeclaredClasses()));
        all.add(WindHall.class);
        return all;
    }

    private static void classesInside() {
        rule(11, "classes", allClasses().size() <= 12);
        for (Class<?> c : allClasses()) {
            rule(2, c + " is static", c == WindHall.class || Modifier.isStatic(c.getModifiers()));
            int fields = 0;
            for (Field f : c.getDeclaredFields()) {
                if (Modifier.isStatic(f.getModifiers())) {
                    rule(5, f + " is final", Modifier.isFinal(f.getModifiers()));
                } else {
                    fields++;
                }
            }
            rule(11, c + " has few fields", fields <= 20);
            for (Method m : c.getDeclaredMethods()) {
                rule(11, m + " has few parameters", m.getParameterCount() <= 7);
            }
        }
    }

    private static void words(String source) {
        String code = source.replaceAll("(?s)/\\*.*?\\*/", "").replaceAll("//[^\n]*", "");
        for (String word : new String[] {"throw", "throws", "try", "catch", "synchronized", "assert", "import", "package",
            "System", "Random", "Thread", "Object", "equals", "hashCode", "toString", "var", "double", "float"}) {
            rule(6, "the word " + word, !Pattern.compile("\\b" + word + "\\b").matcher(code).find());
        }
        rule(2, "no lambda, no method reference", !code.contains("->") && !code.contains("::"));
        rule(4, "no function that ends in Exact", !code.contains("Exact"));
        Matcher library = Pattern.compile("\\b(Math|Integer|Long)\\.(\\w+)").matcher(code);
        while (library.find()) {
            rule(4, library.group(), Set.of("abs", "max", "min", "floorDiv", "floorMod", "bitCount", "MAX_VALUE")
                    .contains(library.group(2)));
        }
        // What a method makes would be made again by each call; fields are made once an object.
        rule(12, "rows are made in fields and constructors alone", !code.replaceAll("(?m)^.*\\bfinal\\b.*= new .*$", "")
                .replaceAll("(?m)^ +(sheets|row)\\[k\\] = new (Sheet|Correction)\\(\\);$", "").contains("new "));
        for (char c : source.toCharArray()) {
            rule(3, "characters", c < 128);
        }
    }

    /** Of the main class's methods and of those of the classes inside it, told by how far their lines stand in. */
    private static void lengths(String source) {
        int found = 0;
        for (String indent : new String[] {"    ", "        "}) {
            Matcher method = Pattern.compile("(?ms)^" + indent + "(\\w[^\\n;=]*\\)) \\{$(.*?)^" + indent + "\\}$").matcher(source);
            while (method.find()) {
                found++;
                long lines = method.group(2).lines().count();
                rule(11, method.group(1) + " has " + lines + " lines", lines <= 60);
            }
        }
        rule(11, "methods were found", found > FACE.split(" ").length);
    }

    private static void rule(int number, String what, boolean holds) {
        DUE.due(number, "rule of LANGUAGE.md: " + what, holds ? 1 : 0, 1);
    }
}
