import java.lang.reflect.Constructor;
import java.lang.reflect.Field;
import java.lang.reflect.Method;
import java.lang.reflect.Modifier;
import java.util.Arrays;
import java.util.HashSet;
import java.util.List;
import java.util.Set;
import java.util.TreeSet;
import java.util.stream.Collectors;

/** The class has the document's face and, but for private members, nothing beside it (rule 1 of LANGUAGE.md). */
public final class StockRows2Face {
    private static final String A = " IllegalArgumentException";
    private static final String I = " IndexOutOfBoundsException";
    private static final String S = " IllegalStateException";
    private static final String U = " UnsupportedOperationException";
    private static final List<String> FACE = List.of(
            "int store()" + U,
            "int lot(int,int)" + A + I + U,
            "int bring(int,int,int)" + A + I + U,
            "int move(int,int,int,int,int)" + A + I + S + U,
            "int use(int,int,int)" + A + I + S,
            "int sum(int,int,int)" + A,
            "int has(int,int)" + A,
            "void level(int,int,int,int)" + A + I,
            "int orders()",
            "int order(int,int)" + A,
            "int deliver(int,int)" + A + S,
            "int emergency(int,int,int,int)" + A + I + U,
            "int second(int,int)" + A + S + U,
            "int count(int,int,int,int)" + A + I + U,
            "int difference(int,int)" + A,
            "void kit(int,int,int)" + A + I,
            "int give(int,int)" + A + S,
            "boolean back(int,int,int)" + A + I + U,
            "int waste(int,int,int,int)" + A + I + S,
            "int lotAt(int,int)" + A,
            "int row(int,int)" + I + S + U,
            "int dip(int)" + I,
            "int tick(int)" + I);

    private static int wrong = 0;

    public static void main(String[] args) {
        expect(Modifier.isPublic(StockRows2.class.getModifiers()), "the class is not public");
        expect(Modifier.isFinal(StockRows2.class.getModifiers()), "the class is not final");
        constructors();
        methods();
        for (Field field : StockRows2.class.getDeclaredFields()) {
            expect(Modifier.isPrivate(field.getModifiers()), "the field " + field.getName() + " is not private");
            expect(!Modifier.isStatic(field.getModifiers()) || Modifier.isFinal(field.getModifiers()),
                    "the static field " + field.getName() + " is not final");
        }
        System.out.println(wrong == 0 ? "the face is the document's" : wrong + " things are not as due");
        if (wrong != 0) {
            System.exit(1);
        }
    }

    private static void constructors() {
        Constructor<?>[] all = StockRows2.class.getDeclaredConstructors();
        expect(all.length == 1 && all[0].getParameterCount() == 0 && Modifier.isPublic(all[0].getModifiers()),
                "the public constructor without parameters is not the only one");
    }

    private static void methods() {
        Set<String> seen = new TreeSet<>();
        Set<String> publicNames = new HashSet<>();
        Set<String> privateNames = new HashSet<>();
        for (Method method : StockRows2.class.getDeclaredMethods()) {
            if (Modifier.isPublic(method.getModifiers())) {
                seen.add(told(method));
                publicNames.add(method.getName());
            } else {
                expect(Modifier.isPrivate(method.getModifiers()), method.getName() + " is seen in the package");
                privateNames.add(method.getName());
            }
        }
        for (String name : privateNames) {
            expect(!publicNames.contains(name), "a private method bears the public name " + name);
        }
        for (String method : FACE) {
            expect(seen.contains(method), "the class lacks " + method);
        }
        for (String method : seen) {
            expect(FACE.contains(method), "the document has no " + method);
        }
    }

    private static String told(Method method) {
        String parameters = Arrays.stream(method.getParameterTypes()).map(Class::getName)
                .collect(Collectors.joining(","));
        String thrown = Arrays.stream(method.getExceptionTypes()).map(type -> " " + type.getSimpleName())
                .collect(Collectors.joining());
        return method.getReturnType().getName() + " " + method.getName() + "(" + parameters + ")" + thrown;
    }

    private static void expect(boolean holds, String otherwise) {
        if (!holds) {
            wrong++;
            System.out.println(otherwise);
        }
    }
}
