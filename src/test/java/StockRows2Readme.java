import java.io.IOException;
import java.lang.reflect.InvocationTargetException;
import java.lang.reflect.Method;
import java.lang.reflect.Modifier;
import java.nio.file.Files;
import java.nio.file.Path;
import java.util.Arrays;
import java.util.Set;
import java.util.TreeSet;
import java.util.regex.Matcher;
import java.util.regex.Pattern;

/** The example of README.md, call by call: each answers as its comment says, and every call of the face is there. */
public final class StockRows2Readme {
    private static final Pattern CALL = Pattern.compile("stock\\.(\\w+)\\(([-0-9, ]*)\\);\\s*// (.*)");
    /** The answer is the comment's first word, alone or with a colon behind it. */
    private static final Pattern ANSWER = Pattern.compile("(-?\\d+|true|false|\\w+Exception)(:.*)?");

    private static int wrong = 0;

    public static void main(String[] args) throws IOException, IllegalAccessException {
        Set<String> lacking = new TreeSet<>();
        for (Method method : StockRows2.class.getDeclaredMethods()) {
            if (Modifier.isPublic(method.getModifiers())) {
                lacking.add(method.getName());
            }
        }
        StockRows2 stock = new StockRows2();
        for (String line : Files.readAllLines(Path.of("README.md"))) {
            if (!line.startsWith("stock.")) {
                continue;
            }
            Matcher call = CALL.matcher(line);
            if (!call.matches()) {
                tell(line + ": is not a call with a comment");
                continue;
            }
            lacking.remove(call.group(1));
            check(stock, call);
        }
        lacking.forEach(name -> tell("README.md has no call of " + name));
        System.out.println(wrong == 0 ? "README.md's example answers as it says" : wrong + " lines are not as due");
        if (wrong != 0) {
            System.exit(1);
        }
    }

    private static void check(StockRows2 stock, Matcher call) throws IllegalAccessException {
        Matcher told = ANSWER.matcher(call.group(3));
        String due = told.matches() ? told.group(1) : "nothing";
        String got = answer(stock, call.group(1), call.group(2));
        if (!got.equals(due)) {
            tell(call.group() + " answered " + got);
        }
    }

    private static String answer(StockRows2 stock, String name, String arguments) throws IllegalAccessException {
        Object[] values = arguments.isEmpty() ? new Object[0]
                : Arrays.stream(arguments.split(", ")).map(Integer::valueOf).toArray();
        Class<?>[] types = new Class<?>[values.length];
        Arrays.fill(types, int.class);
        try {
            Object got = StockRows2.class.getMethod(name, types).invoke(stock, values);
            return got == null ? "nothing" : got.toString();
        } catch (InvocationTargetException e) {
            return e.getCause().getClass().getSimpleName();
        } catch (NoSuchMethodException e) {
            return "that there is no such method";
        }
    }

    private static void tell(String what) {
        wrong++;
        System.out.println(what);
    }
}
