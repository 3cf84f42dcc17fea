import com.sun.management.ThreadMXBean;
import java.io.IOException;
import java.lang.management.ManagementFactory;
import java.lang.reflect.Field;
import java.lang.reflect.Method;
import java.lang.reflect.Modifier;
import java.nio.file.Files;
import java.nio.file.Path;
import java.util.ArrayList;
import java.util.List;
import java.util.TreeSet;
import java.util.regex.Matcher;
import java.util.regex.Pattern;

/** The face of the document, the rules of LANGUAGE.md that can be read off the source, and the room of a run. */
public final class LanguageTest {

    private static final int OBJECTS = 50;
    private static final Path SOURCE = Path.of("src/main/java/HalfScales.java");
    private static final String FACE = "feed(int) end(int) text() fault() rule(int) cell(int) person(int) pair(int) "
        + "weigh(int,int) split(int) join(int) teach(int,int) set(int,int) appeal() lighter(int,int) worth(int,int) "
        + "finds(int,int) just(int) middle(int) honest(int) chosen(int,int,int) sly(int,int,int) halves(int,int) "
        + "stop(int,int) orders(int) next(int) luck(int,int,int) mean(int,int,int) see(int,int,int) forget(int) "
        + "fits(int) kinds(int) drift(int,int,int) keep(int) back(int) sheet(int,int,int) lay(int,int,int) "
        + "read(int,int,int,int) torn() count(int)";

    public static void main(String[] args) throws IOException {
        face();
        classes();
        source();
        room();
        Due.finish("LanguageTest");
    }

    private static void face() {
        TreeSet<String> due = new TreeSet<>(List.of(FACE.split(" ")));
        TreeSet<String> there = new TreeSet<>();
        for (Method method : HalfScales.class.getDeclaredMethods()) {
            if (!Modifier.isPrivate(method.getModifiers())) {
                List<String> types = new ArrayList<>();
                for (Class<?> type : method.getParameterTypes()) {
                    types.add(type.getName());
                }
                there.add(method.getName() + "(" + String.join(",", types) + ")");
                boolean isLong = method.getName().equals("luck") || method.getName().equals("mean");
                Due.holds("type of " + method, method.getReturnType() == (isLong ? long.class : int.class));
                Due.holds("public, of an object: " + method, (method.getModifiers() & ~Modifier.PUBLIC) == 0);
            }
        }
        Due.holds("the face is " + there, there.equals(due));
        TreeSet<String> constants = new TreeSet<>();
        for (Field field : HalfScales.class.getDeclaredFields()) {
            if (!Modifier.isPrivate(field.getModifiers())) {
                constants.add(field.getName());
            }
        }
        Due.holds("the constants are " + constants, constants.equals(new TreeSet<>(List.of("BAD", "STATE", "FULL", "NONE"))));
        Due.is("constructors", HalfScales.class.getDeclaredConstructors().length, 1);
        Due.holds("public final", HalfScales.class.getModifiers() == (Modifier.PUBLIC | Modifier.FINAL));
    }

    private static void classes() {
        List<Class<?>> all = new ArrayList<>(List.of(HalfScales.class.getDeclaredClasses()));
        for (Class<?> inside : all) {
            Due.holds("static: " + inside, Modifier.isStatic(inside.getModifiers()));
        }
        all.add(HalfScales.class);
        Due.holds("some twelve classes", all.size() <= 12);
        String names = " " + FACE.replaceAll("\\([^)]*\\)", "") + " ";
        for (Class<?> each : all) {
            int fields = 0;
            for (Field field : each.getDeclaredFields()) {
                boolean isStatic = Modifier.isStatic(field.getModifiers());
                fields += isStatic ? 0 : 1;
                Due.holds("final, if static: " + field, !isStatic || Modifier.isFinal(field.getModifiers()));
                Due.holds("no row of texts: " + field, field.getType() != String[].class);
            }
            Due.holds("some twenty fields in " + each, fields <= 20);
            for (Method method : each.getDeclaredMethods()) {
                Due.holds("seven parameters: " + method, method.getParameterCount() <= 7);
                boolean isFace = Modifier.isPublic(method.getModifiers());
                Due.holds("no name of the face: " + method, isFace || !names.contains(" " + method.getName() + " "));
            }
        }
    }

    private static void source() throws IOException {
        String whole = Files.readString(SOURCE);
        Due.holds("signs 1 to 127", whole.chars().allMatch(c -> c > 0 && c < 128));
        String code = whole.replaceAll("(?s)/\\*.*?\\*/", "").replaceAll("//[^\n]*", "").replaceAll("\"[^\"\n]*\"", "\"\"");
        String[] refused = {"\\bthrow\\b", "\\btry\\b", "\\bcatch\\b", "\\bsynchronized\\b", "\\bassert\\b", "\\bpackage\\b",
            "\\bimport\\b", "->", "::", "static\\s*\\{", "\\bObject\\b", "Exact\\b", "\\bprotected\\b", "\"\"\\s*\\+",
            "\\+\\s*\"\"", "\\bequals\\b", "\\bhashCode\\b", "\\btoString\\b", "while\\s*\\(true\\)", "for\\s*\\(;;"};
        for (String word : refused) {
            Due.holds("not in the source: " + word, !Pattern.compile(word).matcher(code).find());
        }
        Matcher made = Pattern.compile("\n(        +)[^\n]*\\bnew\\b").matcher(code);
        while (made.find()) {
            String line = code.substring(made.start(), code.indexOf('\n', made.start() + 1));
            boolean isField = line.matches("\\s+(private )?final .*");
            boolean isRow = line.matches("\\s+(images|sheets)\\[k\\] = .*");
            Due.holds("made in constructors alone:" + line, isField || isRow);
        }
        int start = 0;
        int number = 0;
        for (String line : whole.split("\n")) {
            number++;
            if (line.matches("    (    )?(public|private|static|int|long|void|boolean).*\\) \\{")) {
                start = number;
            }
            if (line.matches("    (    )?\\}")) {
                Due.holds("some sixty lines behind line " + start, start == 0 || number - start <= 60);
                start = 0;
            }
        }
    }

    /** What a run makes stays in its room, so calls make nothing: all rows come with the object. */
    private static void room() {
        ThreadMXBean threads = (ThreadMXBean) ManagementFactory.getThreadMXBean();
        long id = Thread.currentThread().getId();
        allCalls(new HalfScales());
        long before = threads.getThreadAllocatedBytes(id);
        HalfScales[] all = new HalfScales[OBJECTS];
        for (int i = 0; i < OBJECTS; i++) {
            all[i] = new HalfScales();
        }
        long made = threads.getThreadAllocatedBytes(id) - before;
        Due.holds("objects take " + made + " bytes", made < OBJECTS * 8000);
        before = threads.getThreadAllocatedBytes(id);
        for (HalfScales each : all) {
            // Twice all calls are fewer than the 512 that an object is used for.
            allCalls(each);
            allCalls(each);
        }
        made = threads.getThreadAllocatedBytes(id) - before;
        Due.holds("calls made " + made + " bytes", made < 4096);
    }

    private static void allCalls(HalfScales x) {
        String text = "thing 3 1 4 1 5 9 2 6;plain;child;sweet;dealer;slip 1;fine 99;case 5;lighter 0 1;";
        for (int i = 0; i < text.length(); i++) {
            x.feed(text.charAt(i));
        }
        x.text();
        x.feed('?');
        x.text();
        x.end(0);
        for (int what = 0; what < 3; what++) {
            x.rule(what);
            x.middle(what);
            x.chosen(0, 1, what);
            x.sly(0, 1, what);
            x.halves(15, what);
            x.stop(1, what);
            x.orders(what);
            x.orders(10 + what);
            x.next(what);
            x.luck(3, 1, what);
            x.mean(3, 1, what);
            x.drift(7, 60, what);
            x.count(what);
            x.see(what, 1, 0);
        }
        x.fits(1);
        x.kinds(1);
        x.forget(0);
        x.keep(0);
        x.join(0);
        x.split(0);
        x.weigh(0, 1);
        x.teach(0, 1);
        x.set(2, 1);
        x.appeal();
        x.lighter(2, 3);
        x.worth(0, 3);
        x.finds(0, 1);
        x.just(1);
        x.honest(0);
        x.back(0);
        x.sheet(0, 1, 40);
        x.lay(0, 1, 1);
        x.read(0, 1, 0, 20);
        x.torn();
        x.fault();
        x.cell(0);
        x.person(0);
        x.pair(0);
    }
}
