import java.lang.reflect.Constructor;
import java.lang.reflect.Executable;
import java.lang.reflect.Field;
import java.lang.reflect.Method;
import java.lang.reflect.Modifier;
import java.util.ArrayList;
import java.util.Arrays;
import java.util.List;
import java.util.Set;
import java.util.TreeSet;

/** The public face of the document, and what the rules of LANGUAGE.md tell of the compiled classes. */
final class FaceTest {
    private static final String[] METHODS = {
        "int addPier(int,int,int,int,int) IllegalArgumentException IllegalStateException",
        "int pierCount()",
        "int today()",
        "int passDays(int) IllegalArgumentException",
        "int moonAge(int) IllegalArgumentException",
        "int rangeOf(int,int) IndexOutOfBoundsException IllegalArgumentException",
        "int waterCount(int,int) IndexOutOfBoundsException IllegalArgumentException",
        "int waterMinute(int,int,int) IllegalArgumentException IndexOutOfBoundsException",
        "int waterHeight(int,int,int) IllegalArgumentException IndexOutOfBoundsException",
        "boolean isHighWater(int,int,int) IllegalArgumentException IndexOutOfBoundsException",
        "int minutesToHighWater(int,int,int) IndexOutOfBoundsException IllegalArgumentException",
        "int report(int,int,int) IndexOutOfBoundsException IllegalArgumentException",
        "int observe(int,int) IndexOutOfBoundsException IllegalArgumentException",
        "int correctionOf(int) IndexOutOfBoundsException",
        "int trustOf(int) IndexOutOfBoundsException",
        "int reportCount(int) IndexOutOfBoundsException",
        "int reporterAt(int,int) IndexOutOfBoundsException NoSuchElementException",
        "int reportedMinutes(int,int) IndexOutOfBoundsException NoSuchElementException",
        "int reportAge(int,int) IndexOutOfBoundsException NoSuchElementException",
        "int deliverTin(int,int) IllegalArgumentException IllegalStateException",
        "int tinCount(int) IllegalArgumentException",
        "int paintLeft(int) IllegalArgumentException",
        "int oldestTin(int) IllegalArgumentException NoSuchElementException",
        "int paintUsed()",
        "int paintDripped()",
        "int paintPoured()",
        "int order(int,int) IndexOutOfBoundsException IllegalArgumentException IllegalStateException",
        "int cancelOrder(int) IndexOutOfBoundsException NoSuchElementException",
        "int waitingOrders()",
        "int waitingPier(int) NoSuchElementException",
        "int jobPier()",
        "int linesToPaint()",
        "int paint(int) IllegalArgumentException",
        "int giveUpJob() IllegalStateException",
        "int touchUp(int) IndexOutOfBoundsException NoSuchElementException IllegalStateException",
        "int boardDay(int) IndexOutOfBoundsException",
        "int lineCount(int) IndexOutOfBoundsException",
        "int lineState(int,int) IndexOutOfBoundsException",
        "int lineMinute(int,int) IndexOutOfBoundsException NoSuchElementException",
        "int lineHeight(int,int) IndexOutOfBoundsException NoSuchElementException",
        "int dripsOf(int) IndexOutOfBoundsException",
        "int unreadableLines(int) IndexOutOfBoundsException",
        "boolean isRight(int) IndexOutOfBoundsException",
        "int rightBoards()"};

    private static final String[] CONSTANTS = {
        "NONE -1", "BLUE 0", "RED 1", "BLANK 0", "READABLE 1", "BLOTTED 2", "FADED 3"};

    private FaceTest() {
    }

    static void run() {
        Class<?> face = TideTablePainters.class;
        Checks.yes("face: public and final", Modifier.isPublic(face.getModifiers())
                && Modifier.isFinal(face.getModifiers()));
        Checks.same("face: one constructor", face.getDeclaredConstructors().length, 1);
        Checks.yes("face: the constructor is public", Modifier.isPublic(
                face.getDeclaredConstructors()[0].getModifiers()));
        Checks.same("face: it takes nothing", face.getDeclaredConstructors()[0].getParameterCount(), 0);
        methods(face);
        constants(face);
        Class<?>[] inside = face.getDeclaredClasses();
        Checks.yes("rule 11: at most twelve classes", inside.length < 12);
        sizes(face);
        for (Class<?> c : inside) {
            Checks.no("rule 1: no public class inside", Modifier.isPublic(c.getModifiers())
                    || Modifier.isProtected(c.getModifiers()));
            sizes(c);
        }
    }

    private static void methods(Class<?> face) {
        Set<String> due = new TreeSet<>(Arrays.asList(METHODS));
        Set<String> found = new TreeSet<>();
        Set<String> publicNames = new TreeSet<>();
        List<String> privateNames = new ArrayList<>();
        for (Method m : face.getDeclaredMethods()) {
            if (Modifier.isPrivate(m.getModifiers())) {
                privateNames.add(m.getName());
            } else {
                found.add(described(m));
                publicNames.add(m.getName());
            }
        }
        for (String s : due) {
            Checks.yes("face: " + s, found.contains(s));
        }
        for (String s : found) {
            Checks.yes("face: nothing more than due: " + s, due.contains(s));
        }
        for (String s : privateNames) {
            Checks.no("rule 1: private name " + s, publicNames.contains(s));
        }
    }

    private static String described(Method m) {
        StringBuilder s = new StringBuilder();
        s.append(m.getReturnType().getName()).append(' ').append(m.getName()).append('(');
        for (int i = 0; i < m.getParameterCount(); i++) {
            s.append(i == 0 ? "" : ",").append(m.getParameterTypes()[i].getName());
        }
        s.append(')');
        for (Class<?> e : m.getExceptionTypes()) {
            s.append(' ').append(e.getSimpleName());
        }
        return s.toString();
    }

    private static void constants(Class<?> face) {
        Set<String> found = new TreeSet<>();
        for (Field f : face.getDeclaredFields()) {
            if (Modifier.isPrivate(f.getModifiers())) {
                continue;
            }
            Checks.yes("face: constant " + f.getName(), Modifier.isPublic(f.getModifiers())
                    && Modifier.isStatic(f.getModifiers()) && Modifier.isFinal(f.getModifiers())
                    && f.getType() == int.class);
            try {
                found.add(f.getName() + " " + f.getInt(null));
            } catch (IllegalAccessException e) {
                found.add(f.getName() + " is closed");
            }
        }
        Checks.yes("face: constants " + found, found.equals(new TreeSet<>(Arrays.asList(CONSTANTS))));
    }

    private static void sizes(Class<?> c) {
        int fields = 0;
        for (Field f : c.getDeclaredFields()) {
            if (Modifier.isStatic(f.getModifiers())) {
                Checks.yes("rule 5: static and final " + f.getName(), Modifier.isFinal(f.getModifiers()));
            } else {
                fields++;
            }
        }
        Checks.yes("rule 11: fields of " + c.getName(), fields <= 20);
        List<Executable> all = new ArrayList<>(Arrays.asList(c.getDeclaredMethods()));
        for (Constructor<?> made : c.getDeclaredConstructors()) {
            all.add(made);
        }
        for (Executable e : all) {
            Checks.yes("rule 11: parameters of " + e.getName(), e.getParameterCount() <= 7);
            Checks.no("rule 6: " + e.getName(), Set.of("equals", "hashCode", "toString").contains(e.getName()));
        }
    }
}
