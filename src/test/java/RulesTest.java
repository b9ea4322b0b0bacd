import java.lang.management.ManagementFactory;
import java.lang.reflect.Constructor;
import java.lang.reflect.Field;
import java.lang.reflect.Method;
import java.lang.reflect.Modifier;
import java.nio.file.Files;
import java.nio.file.Path;
import java.util.ArrayList;
import java.util.Arrays;
import java.util.List;
import java.util.Set;
import java.util.TreeSet;
import java.util.regex.Matcher;
import java.util.regex.Pattern;

/** What of ../shared/LANGUAGE.md a program can see: the face, the words, the sizes, and what calls make. */
public final class RulesTest {
    private static final String FACE = "station/2 bicycle/1 rider/0 van/2 pass/1 rent/2 back/2 full/2 report/1 take/2 put/2 go/2 "
        + "mend/2 pause/1 set/2 stationOf/2 bicycleOf/2 riderOf/2 vanOf/2 count/1 move/1 evening/0 keep/0 restore/0 undo/0 "
        + "type/1 clearText/0 fault/1 play/0";
    private static final String CONSTANTS = "INVALID_ARGUMENT NOT_POSSIBLE LIMIT_REACHED NOT_FOUND";
    private static final String FORBIDDEN = "\\b(import|package|throws?|try|catch|finally|synchronized|assert|instanceof|var|native"
        + "|Exception|Error|Thread|System\\.(?!arraycopy)\\w+|Random|Exact|equals|hashCode|toString|yield)\\b|->|::|@";

    public static void main(String[] args) throws Exception {
        face();
        namesInside();
        sizes();
        source(Files.readString(Path.of("src/main/java/DockedBikes.java")));
        room();
        Checks.end();
    }

    private static List<Class<?>> classes() {
        List<Class<?>> all = new ArrayList<>();
        all.add(DockedBikes.class);
        all.addAll(Arrays.asList(DockedBikes.class.getDeclaredClasses()));
        return all;
    }

    private static void face() {
        Checks.title("rule 1");
        Class<?> c = DockedBikes.class;
        Set<String> methods = new TreeSet<>();
        for (Method m : c.getDeclaredMethods()) {
            if (!Modifier.isPrivate(m.getModifiers())) {
                methods.add(m.getName() + "/" + m.getParameterCount());
                Checks.holds(m + " is public, answers int and takes int alone", Modifier.isPublic(m.getModifiers())
                    && m.getReturnType() == int.class && Arrays.stream(m.getParameterTypes()).allMatch(t -> t == int.class));
            }
        }
        Checks.holds("the methods are " + methods, methods.equals(new TreeSet<>(Arrays.asList(FACE.split(" ")))));
        Set<String> constants = new TreeSet<>();
        for (Field f : c.getDeclaredFields()) {
            if (!Modifier.isPrivate(f.getModifiers())) {
                constants.add(f.getName());
            }
        }
        Checks.holds("the constants are " + constants, constants.equals(new TreeSet<>(Arrays.asList(CONSTANTS.split(" ")))));
        Constructor<?>[] made = c.getDeclaredConstructors();
        Checks.holds("one public constructor", made.length == 1 && made[0].getParameterCount() == 0
            && Modifier.isPublic(made[0].getModifiers()));
        Checks.holds("final", Modifier.isFinal(c.getModifiers()));
    }

    private static void namesInside() {
        Set<String> publicNames = new TreeSet<>();
        for (String method : FACE.split(" ")) {
            publicNames.add(method.substring(0, method.indexOf('/')));
        }
        for (Class<?> c : classes()) {
            for (Method m : c.getDeclaredMethods()) {
                boolean inside = c != DockedBikes.class || Modifier.isPrivate(m.getModifiers());
                Checks.holds(m + " bears a public name", !inside || !publicNames.contains(m.getName()));
            }
        }
    }

    private static void sizes() {
        Checks.title("rules 2, 5, 11");
        Checks.holds("twelve classes", classes().size() <= 12);
        for (Class<?> c : classes()) {
            int fields = 0;
            for (Field f : c.getDeclaredFields()) {
                boolean fixed = Modifier.isStatic(f.getModifiers());
                fields += fixed ? 0 : 1;
                Checks.holds(f + " is final", !fixed || Modifier.isFinal(f.getModifiers()));
            }
            Checks.holds(c + " has " + fields + " fields", fields <= 20);
            Checks.holds(c + " is static", c == DockedBikes.class || Modifier.isStatic(c.getModifiers()));
            for (Method m : c.getDeclaredMethods()) {
                Checks.holds(m + " takes seven", m.getParameterCount() <= 7);
            }
        }
    }

    private static void source(String source) {
        Checks.title("rules 3, 4, 6");
        Checks.holds("signs up to 127", source.chars().allMatch(sign -> sign < 128));
        String code = source.replaceAll("/\\*(?s:.*?)\\*/", "").replaceAll("//[^\n]*", "")
            .replaceAll("\"[^\"\n]*\"", "\"\"").replaceAll("'.'", "'x'");
        Matcher word = Pattern.compile(FORBIDDEN).matcher(code);
        while (word.find()) {
            Checks.holds("the program says " + word.group(), false);
        }
        Checks.holds("no joining by +", !code.contains("\"\" +") && !code.contains("+ \"\""));
        int length = 0;
        for (String line : code.split("\n")) {
            // A method begins and ends at the indent of four or, in a class inside, of eight.
            boolean edge = line.matches(" {4}( {4})?[^ ].*");
            length = edge ? 0 : length + 1;
            Checks.holds("a method longer than 60 lines at " + line, length <= 60);
        }
    }

    /** Calls make nothing: all rows are made by the constructor. */
    private static void room() {
        Checks.title("the room");
        calls(new DockedBikes());
        DockedBikes bikes = new DockedBikes();
        com.sun.management.ThreadMXBean meter = (com.sun.management.ThreadMXBean) ManagementFactory.getThreadMXBean();
        long id = Thread.currentThread().getId();
        long before = meter.getThreadAllocatedBytes(id);
        before = meter.getThreadAllocatedBytes(id);
        calls(bikes);
        long made = meter.getThreadAllocatedBytes(id) - before;
        Checks.holds("calls made " + made + " bytes", made < 1000);
    }

    private static void calls(DockedBikes x) {
        for (int i = 0; i < 6; i++) {
            x.station(i * 15, 3);
            x.bicycle(i);
            x.bicycle(0);
            x.rider();
        }
        x.van(0, 3);
        for (int i = 0; i < 15; i++) {
            x.type("rent 0 0;wait 1;".charAt(i));
        }
        for (int i = 0; i < 10; i++) {
            x.pass(0);
            x.rent(i, i);
            x.pause(50);
            x.full(i, 0);
            x.back(i, 1);
            x.report(i);
            x.take(0, 2);
            x.put(0, 3);
            x.mend(0, 2);
            x.go(0, i);
            x.set(1, i);
            x.fault(0);
            x.play();
            x.move(i);
            x.evening();
            x.keep();
            x.restore();
            x.undo();
            x.stationOf(0, 4);
            x.bicycleOf(0, 1);
            x.riderOf(0, 5);
            x.vanOf(0, 2);
            x.count(i);
        }
        x.clearText();
    }
}
