import java.lang.reflect.InvocationTargetException;
import java.lang.reflect.Method;
import java.util.ArrayList;
import java.util.Arrays;
import java.util.HashMap;
import java.util.List;
import java.util.Map;

/** A run of calls by their names, so that the same run can be made on the program and on the model, as often as due. */
final class Run {

    private record Step(String name, int[] args) {
    }

    private static final Map<String, Method> METHODS = new HashMap<>();

    private final List<Step> steps = new ArrayList<>();

    static Run of(String text) {
        return new Run().told(text);
    }

    /** A run goes on as a new one, so that several may begin alike. */
    Run then(String name, int... args) {
        Run longer = new Run();
        longer.steps.addAll(steps);
        longer.steps.add(new Step(name, args));
        return longer;
    }

    Run fed(String bytes) {
        Run longer = this;
        for (int i = 0; i < bytes.length(); i++) {
            longer = longer.then("feed", bytes.charAt(i));
        }
        return longer;
    }

    Run told(String text) {
        return fed(text).then("text");
    }

    Run laid(int k, int lane, int... row) {
        Run longer = then("sheet", k, lane, row.length);
        for (int i = 0; i < row.length; i++) {
            longer = longer.then("lay", k, i, row[i]);
        }
        return longer;
    }

    int length() {
        return steps.size();
    }

    HalfScales object() {
        HalfScales x = new HalfScales();
        makeOn(x);
        return x;
    }

    Model model() {
        Model m = new Model();
        makeOn(m);
        return m;
    }

    private void makeOn(Object target) {
        for (Step step : steps) {
            call(target, step.name, step.args);
        }
    }

    static String told(String name, int... args) {
        String row = Arrays.toString(args);
        return name + "(" + row.substring(1, row.length() - 1) + ")";
    }

    static long call(Object target, String name, int... args) {
        Object[] boxed = new Object[args.length];
        for (int i = 0; i < args.length; i++) {
            boxed[i] = args[i];
        }
        try {
            return ((Number) method(target, name, args.length).invoke(target, boxed)).longValue();
        } catch (IllegalAccessException | InvocationTargetException e) {
            throw new IllegalStateException(told(name, args), e);
        }
    }

    private static Method method(Object target, String name, int many) {
        String key = target.getClass().getName() + "." + name;
        Method known = METHODS.get(key);
        if (known != null) {
            return known;
        }
        Class<?>[] types = new Class<?>[many];
        Arrays.fill(types, int.class);
        try {
            Method found = target.getClass().getDeclaredMethod(name, types);
            METHODS.put(key, found);
            return found;
        } catch (NoSuchMethodException e) {
            throw new IllegalStateException(key, e);
        }
    }
}
