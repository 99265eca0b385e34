import java.lang.reflect.Constructor;
import java.lang.reflect.Field;
import java.lang.reflect.Method;
import java.lang.reflect.Modifier;
import java.nio.charset.StandardCharsets;
import java.nio.file.Files;
import java.nio.file.Path;
import java.util.ArrayList;
import java.util.List;
import java.util.Set;
import java.util.TreeSet;
import java.util.regex.Matcher;
import java.util.regex.Pattern;

/** The public face, and those rules of LANGUAGE.md that can be seen from the outside or from the text. */
public final class FaceTest {
    private static final Check check = new Check("FaceTest");

    private static final String[] FACE = {
        "int addWheel(int,int) IllegalArgumentException,IllegalStateException",
        "int setSkip(int,int,int,int) IndexOutOfBoundsException,IllegalArgumentException",
        "int clearSkip(int) IndexOutOfBoundsException",
        "int setWheel(int,int,int) IndexOutOfBoundsException,IllegalArgumentException",
        "int setMoon(int,int) IndexOutOfBoundsException,IllegalArgumentException",
        "int setMarket(int,int,int,int) IndexOutOfBoundsException,IllegalArgumentException",
        "int setDay(int,boolean) IllegalArgumentException",
        "int pass(int) IllegalArgumentException,IllegalStateException",
        "int print() ",
        "int wheel(int,int) IndexOutOfBoundsException,IllegalArgumentException",
        "int value(int) IllegalArgumentException",
        "int highWater(int) IllegalArgumentException",
        "int market(int) IllegalArgumentException",
        "int nextMarket() ",
        "int nextMeeting(int) IllegalArgumentException",
        "long byRemainders(int) IllegalArgumentException",
        "long multiple(int) IllegalArgumentException",
        "int comesBack() ",
        "int errors(int) IllegalArgumentException",
        "int bestLag(int) IllegalArgumentException",
        "double kept() ",
        "int append(int) IllegalArgumentException,IllegalStateException",
        "int clearText() ",
        "int parse() ",
        "int undo() IllegalStateException",
        "long digest() ",
    };

    public static void main(String[] args) throws Exception {
        hasTheFaceOfTheDocument();
        hidesAllElse();
        keepsToTheWords();
        check.end();
    }

    private static String names(Class<?>[] types) {
        List<String> names = new ArrayList<>();
        for (Class<?> type : types) {
            names.add(type.getSimpleName());
        }
        return String.join(",", names);
    }

    private static void hasTheFaceOfTheDocument() throws Exception {
        Class<?> face = SynodicWheels.class;
        check.isTrue("public final class", face.getModifiers() == (Modifier.PUBLIC | Modifier.FINAL));
        Set<String> found = new TreeSet<>();
        for (Method m : face.getDeclaredMethods()) {
            if (!Modifier.isPrivate(m.getModifiers()) && !m.isSynthetic()) {
                check.isTrue(m.getName() + " is public and of the object", m.getModifiers() == Modifier.PUBLIC);
                found.add(m.getReturnType().getSimpleName() + " " + m.getName() + "(" + names(m.getParameterTypes())
                    + ") " + names(m.getExceptionTypes()));
            }
        }
        Set<String> due = new TreeSet<>(List.of(FACE));
        check.isTrue("the methods " + found + " are " + due, found.equals(due));
        Constructor<?>[] made = face.getDeclaredConstructors();
        check.isTrue("one public constructor", made.length == 1 && made[0].getParameterCount() == 0
            && made[0].getModifiers() == Modifier.PUBLIC);
        Field none = face.getDeclaredField("NONE");
        check.isTrue("NONE", none.getType() == int.class
            && none.getModifiers() == (Modifier.PUBLIC | Modifier.STATIC | Modifier.FINAL));
    }

    private static void hidesAllElse() {
        Set<String> names = new TreeSet<>();
        for (Method m : SynodicWheels.class.getDeclaredMethods()) {
            if (Modifier.isPublic(m.getModifiers())) {
                names.add(m.getName());
            }
        }
        for (Field f : SynodicWheels.class.getDeclaredFields()) {
            check.isTrue("the field " + f.getName() + " is private",
                f.getName().equals("NONE") || Modifier.isPrivate(f.getModifiers()));
            check.isTrue("the static field " + f.getName() + " is final",
                !Modifier.isStatic(f.getModifiers()) || Modifier.isFinal(f.getModifiers()));
        }
        for (Method m : SynodicWheels.class.getDeclaredMethods()) {
            check.isTrue("the private " + m.getName() + " has a name of its own",
                Modifier.isPublic(m.getModifiers()) || !names.contains(m.getName()));
        }
        for (Class<?> inside : SynodicWheels.class.getDeclaredClasses()) {
            int hidden = inside.getModifiers() & (Modifier.PUBLIC | Modifier.PROTECTED);
            check.isTrue(inside.getName() + " is private or package-visible", hidden == 0);
            check.isTrue(inside.getName() + " has at most twenty fields", ownFields(inside) <= 20);
            for (Method m : inside.getDeclaredMethods()) {
                check.isTrue("the private " + m.getName() + " inside has a name of its own",
                    !Modifier.isPrivate(m.getModifiers()) || !names.contains(m.getName()));
                check.isTrue(m.getName() + " takes at most seven", m.getParameterCount() <= 7);
                check.isTrue(m.getName() + " is no lambda", !m.getName().startsWith("lambda$"));
            }
        }
        check.isTrue("at most twelve classes", SynodicWheels.class.getDeclaredClasses().length <= 11);
    }

    private static int ownFields(Class<?> inside) {
        int count = 0;
        for (Field f : inside.getDeclaredFields()) {
            if (!f.isSynthetic() && !Modifier.isStatic(f.getModifiers())) {
                count++;
            }
        }
        return count;
    }

    private static void keepsToTheWords() throws Exception {
        String source = Files.readString(Path.of("src/main/java/SynodicWheels.java"), StandardCharsets.ISO_8859_1);
        String code = source.replaceAll("(?s)/\\*.*?\\*/", "").replaceAll("//[^\n]*", "");
        for (String word : List.of("package ", "::", "finally", "synchronized", "assert ", "Exact(", "Random", "Thread",
                "protected ", "native ", "volatile ", "getMessage", "hashCode", "nanoTime", "currentTimeMillis")) {
            check.isTrue("no '" + word + "' in the class", !code.contains(word));
        }
        Matcher library = Pattern.compile("import ([^;]*);").matcher(code);
        while (library.find()) {
            check.isTrue("the import of " + library.group(1), library.group(1).startsWith("java.util."));
        }
        Matcher system = Pattern.compile("System\\.(\\w+)").matcher(code);
        while (system.find()) {
            check.isTrue("System." + system.group(1), system.group(1).equals("arraycopy"));
        }
    }
}
