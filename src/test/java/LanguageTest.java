import java.io.DataInputStream;
import java.io.IOException;
import java.io.InputStream;
import java.lang.reflect.Constructor;
import java.lang.reflect.Field;
import java.lang.reflect.Method;
import java.lang.reflect.Modifier;
import java.util.ArrayList;
import java.util.Arrays;
import java.util.List;
import java.util.Set;
import java.util.TreeSet;

/** The document's face and the rules of ../shared/LANGUAGE.md that the compiled class shows. */
public final class LanguageTest {
    private static final Checks CHECK = new Checks();
    private static final String INDEX = " IndexOutOfBoundsException";
    private static final String ARGUMENT = " IllegalArgumentException";
    private static final String STATE = " IllegalStateException";
    private static final Set<String> FACE = Set.of(
        "int read 3" + INDEX, "int write 4" + INDEX + ARGUMENT + STATE, "int pull 3" + INDEX + ARGUMENT + STATE,
        "int join 4" + INDEX + ARGUMENT + STATE, "int lose 2" + INDEX, "int forget 2" + INDEX + STATE,
        "int pullAll 0" + STATE, "int append 1" + ARGUMENT + STATE, "int clearBuffer 0", "int firstError 0",
        "int runAll 0" + ARGUMENT, "int undo 0" + STATE, "int sibling 4" + INDEX + ARGUMENT, "int vector 3" + INDEX,
        "int knows 3" + INDEX, "int key 2" + INDEX + ARGUMENT, "int count 1" + ARGUMENT,
        "int ifWritten 4" + INDEX + ARGUMENT, "int ifPulled 4" + INDEX + ARGUMENT, "int whyNot 2" + INDEX,
        "double agreement 0", "long digest 0");
    private static final Set<String> LIBRARY = Set.of(
        "java/lang/Object.<init>", "java/lang/Math.max", "java/lang/Math.min", "java/lang/System.arraycopy",
        "java/lang/String.length", "java/lang/String.charAt", "java/lang/IndexOutOfBoundsException.<init>",
        "java/lang/IllegalArgumentException.<init>", "java/lang/IllegalStateException.<init>");
    private static final Set<Class<?>> CONSTANTS = Set.of(int.class, long.class, boolean.class, char.class,
        String.class);

    public static void main(String[] args) throws IOException {
        face();
        List<Class<?>> all = new ArrayList<>(Arrays.asList(SiblingJoins.class.getDeclaredClasses()));
        CHECK.tell(all.size() <= 11, "more than some twelve classes");
        for (Class<?> inner : all) {
            int modifiers = inner.getModifiers();
            CHECK.tell(Modifier.isStatic(modifiers) && !Modifier.isPublic(modifiers)
                && !Modifier.isProtected(modifiers), inner + " is not a static class of its own");
        }
        all.add(SiblingJoins.class);
        for (Class<?> one : all) {
            fields(one);
            hidesNoPublicName(one);
            library(one);
        }
        CHECK.finish();
    }

    private static void face() {
        Class<?> type = SiblingJoins.class;
        CHECK.tell(Modifier.isPublic(type.getModifiers()) && Modifier.isFinal(type.getModifiers()), "not final");
        Set<String> seen = new TreeSet<>();
        for (Method method : type.getDeclaredMethods()) {
            if (Modifier.isPublic(method.getModifiers())) {
                seen.add(described(method));
            } else {
                CHECK.tell(Modifier.isPrivate(method.getModifiers()), method + " is neither public nor private");
            }
        }
        CHECK.equal("the face", new TreeSet<>(FACE).toString(), seen.toString());
        Constructor<?>[] makers = type.getDeclaredConstructors();
        CHECK.tell(makers.length == 1 && Modifier.isPublic(makers[0].getModifiers())
            && makers[0].getParameterCount() == 0, "not one public constructor");
        for (Field field : type.getDeclaredFields()) {
            boolean known = field.getName().equals("NONE") && Modifier.isPublic(field.getModifiers());
            CHECK.tell(known || Modifier.isPrivate(field.getModifiers()), field + " is not private");
        }
    }

    private static String described(Method method) {
        StringBuilder text = new StringBuilder(method.getReturnType() + " " + method.getName());
        text.append(' ').append(method.getParameterCount());
        for (Class<?> thrown : method.getExceptionTypes()) {
            text.append(' ').append(thrown.getSimpleName());
        }
        for (Class<?> parameter : method.getParameterTypes()) {
            CHECK.tell(parameter == int.class, method + " takes more than ints");
        }
        return text.toString();
    }

    /** Rules 5 and 11. */
    private static void fields(Class<?> type) {
        int own = 0;
        for (Field field : type.getDeclaredFields()) {
            if (!Modifier.isStatic(field.getModifiers())) {
                own++;
                continue;
            }
            CHECK.tell(Modifier.isFinal(field.getModifiers()), field + " is not final");
            CHECK.tell(CONSTANTS.contains(field.getType()), field + " is no constant of rule 5");
        }
        CHECK.tell(own <= 20, type + " has more than some twenty fields");
    }

    /** Rule 1. */
    private static void hidesNoPublicName(Class<?> type) {
        Set<String> names = new TreeSet<>();
        FACE.forEach(line -> names.add(line.split(" ")[1]));
        for (Method method : type.getDeclaredMethods()) {
            boolean own = type == SiblingJoins.class && Modifier.isPublic(method.getModifiers());
            CHECK.tell(own || !names.contains(method.getName()), method + " bears the name of a public one");
            CHECK.tell(method.getParameterCount() <= 7, method + " takes more than seven parameters");
        }
    }

    /** Rules 2, 4 and 6: what a class calls outside itself, and that it builds nothing while it runs. */
    private static void library(Class<?> type) throws IOException {
        String file = type.getName() + ".class";
        try (InputStream in = SiblingJoins.class.getResourceAsStream(file)) {
            for (String call : calls(new DataInputStream(in))) {
                CHECK.tell(call.startsWith("SiblingJoins") || LIBRARY.contains(call), type + " calls " + call);
            }
        }
    }

    private static List<String> calls(DataInputStream in) throws IOException {
        in.readInt();
        in.readInt();
        int size = in.readUnsignedShort();
        String[] texts = new String[size];
        int[] first = new int[size];
        int[] second = new int[size];
        int[] tags = new int[size];
        for (int i = 1; i < size; i++) {
            tags[i] = in.readUnsignedByte();
            switch (tags[i]) {
                case 1 -> texts[i] = in.readUTF();
                case 3, 4 -> in.readInt();
                case 5, 6 -> in.readLong();
                case 7, 8, 16, 19, 20 -> first[i] = in.readUnsignedShort();
                case 15 -> in.skipBytes(3);
                default -> {
                    first[i] = in.readUnsignedShort();
                    second[i] = in.readUnsignedShort();
                }
            }
            i += tags[i] == 5 || tags[i] == 6 ? 1 : 0;
        }
        List<String> found = new ArrayList<>();
        for (int i = 1; i < size; i++) {
            if (tags[i] == 10 || tags[i] == 11) {
                found.add(texts[first[first[i]]] + "." + texts[first[second[i]]]);
            } else if (tags[i] == 17 || tags[i] == 18) {
                found.add("a method made while it runs");
            }
        }
        return found;
    }
}
