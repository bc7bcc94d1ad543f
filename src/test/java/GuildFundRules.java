import java.io.DataInputStream;
import java.io.File;
import java.io.FileInputStream;
import java.io.IOException;
import java.lang.management.ManagementFactory;
import java.lang.reflect.Array;
import java.lang.reflect.Constructor;
import java.lang.reflect.Field;
import java.lang.reflect.Method;
import java.lang.reflect.Modifier;
import java.util.ArrayDeque;
import java.util.Arrays;
import java.util.Collections;
import java.util.Deque;
import java.util.IdentityHashMap;
import java.util.Set;
import java.util.TreeSet;

/** What is asked of the compiled class: its face, its library, that no call throws, and how much room it takes. */
public final class GuildFundRules {
    private static final String[] METHODS = {
        "int setRate(int,int)", "int setNumber(int,int)", "int addMember(int)", "int payDues(int,int)",
        "int addInvoice(int,int,int,int)", "int payAhead(int)", "int pay(int,int)", "int giveUp(int)",
        "int readPayments()", "int refusal(int)", "int pass(int)", "int type(char)", "int clearText()",
        "int undo()", "int keep()", "int restore()", "float rate(int)", "int number(int)",
        "int member(int,int)", "int client(int,int)", "float risk(int)", "float lateness(int)",
        "int invoice(int,int)", "float rateIn(int,int)", "float worth(int)", "int best(int)",
        "int worthlessIn(int)", "float exposure()", "int count(int)",
    };
    private static final String[] CONSTANTS = {"UNKNOWN", "BAD_VALUE", "FULL", "NOT_POSSIBLE", "NONE"};
    private static final int[] EXTREMES = {
        Integer.MIN_VALUE, Integer.MIN_VALUE + 1, -1000000000, -100, -2, -1, 0, 1, 2, 3, 5, 6, 7, 8, 9, 10, 15, 16,
        19, 20, 59, 60, 61, 100, 1000, 1001, 1000000, 0x3F800000, Integer.MAX_VALUE - 1, Integer.MAX_VALUE,
    };

    /** All calls of one run live in a room of 600000 objects and 7.3 million fields and elements. */
    private static final int MOST_OBJECTS = 200;
    private static final int MOST_ELEMENTS = 2500;

    private static int wrong = 0;

    private static void fault(String what) {
        wrong++;
        System.out.println(what);
    }

    public static void main(String[] args) throws Exception {
        checkFace();
        checkLibrary();
        checkExtremes();
        checkRoomOfFund();
        checkRoomOfCalls();
        System.out.println(wrong == 0 ? "the rules hold" : wrong + " faults");
        if (wrong != 0) System.exit(1);
    }

    private static void same(String what, Set<String> got, Set<String> want) {
        if (!got.equals(want)) fault(what + " are " + got + ", due are " + want);
    }

    private static void checkFace() {
        int modifiers = GuildFund.class.getModifiers();
        if (!Modifier.isPublic(modifiers) || !Modifier.isFinal(modifiers)) fault("the class is not public and final");
        Set<String> methods = new TreeSet<>();
        Set<String> publicNames = new TreeSet<>();
        for (Method m : GuildFund.class.getDeclaredMethods()) {
            if (Modifier.isPrivate(m.getModifiers())) continue;
            String types = Arrays.toString(Arrays.stream(m.getParameterTypes()).map(Class::getName).toArray());
            String list = types.substring(1, types.length() - 1).replace(" ", "");
            methods.add(m.getReturnType().getName() + " " + m.getName() + "(" + list + ")");
            publicNames.add(m.getName());
            if (m.getModifiers() != Modifier.PUBLIC) fault(m + " is not just public");
        }
        same("methods", methods, new TreeSet<>(Arrays.asList(METHODS)));
        for (Method m : GuildFund.class.getDeclaredMethods()) {
            if (Modifier.isPrivate(m.getModifiers()) && publicNames.contains(m.getName())) fault(m + " bears a public name");
        }
        Set<String> constants = new TreeSet<>();
        for (Field f : GuildFund.class.getDeclaredFields()) {
            if (Modifier.isStatic(f.getModifiers()) && !Modifier.isFinal(f.getModifiers())) fault(f + " is static state");
            if (!Modifier.isPrivate(f.getModifiers())) constants.add(f.getName());
        }
        same("constants", constants, new TreeSet<>(Arrays.asList(CONSTANTS)));
        Constructor<?>[] constructors = GuildFund.class.getDeclaredConstructors();
        if (constructors.length != 1 || constructors[0].getParameterCount() != 0) fault("there is not one constructor");
        for (Class<?> inside : GuildFund.class.getDeclaredClasses()) {
            if (!Modifier.isStatic(inside.getModifiers())) fault(inside + " is not static");
            if (Modifier.isPublic(inside.getModifiers())) fault(inside + " is public");
        }
    }

    /** The program needs no class of the library but Object; a joined text or a lambda would name others. */
    private static void checkLibrary() throws IOException {
        File folder = new File(GuildFund.class.getProtectionDomain().getCodeSource().getLocation().getPath());
        File[] files = folder.listFiles((where, name) -> name.equals("GuildFund.class") || name.startsWith("GuildFund$"));
        if (files == null || files.length == 0) {
            fault("the compiled class is not found");
            return;
        }
        for (File file : files) {
            for (String name : classesNamedIn(file)) {
                boolean own = name.equals("GuildFund") || name.startsWith("GuildFund$");
                if (!own && !name.startsWith("[") && !name.equals("java/lang/Object")) fault(file.getName() + " names " + name);
            }
        }
    }

    /** Reads the constants of a class file as the Java Virtual Machine Specification, 4.4, tells them. */
    private static Set<String> classesNamedIn(File file) throws IOException {
        try (DataInputStream in = new DataInputStream(new FileInputStream(file))) {
            in.skipBytes(8);
            int size = in.readUnsignedShort();
            String[] texts = new String[size];
            int[] names = new int[size];
            for (int i = 1; i < size; i++) {
                int tag = in.readUnsignedByte();
                switch (tag) {
                    case 1: texts[i] = in.readUTF(); break;
                    case 7: names[i] = in.readUnsignedShort(); break;
                    case 5:
                    case 6: in.skipBytes(8); i++; break;
                    case 8:
                    case 16:
                    case 19:
                    case 20: in.skipBytes(2); break;
                    case 15: in.skipBytes(3); break;
                    default: in.skipBytes(4); break;
                }
            }
            Set<String> classes = new TreeSet<>();
            for (int name : names) {
                if (name != 0) classes.add(texts[name]);
            }
            return classes;
        }
    }

    private static GuildFund[] states() {
        GuildFund busy = new GuildFund();
        for (int i = 0; i < 8; i++) busy.addMember(i + 1);
        for (int i = 0; i < 20; i++) busy.addInvoice(i % 8, i % 6, 1000 * (i + 1), i);
        for (int i = 0; i < 8; i++) busy.payDues(i, 1000000);
        busy.pass(50);
        for (int i = 0; i < 9; i++) busy.payAhead(i);
        busy.pass(100);
        for (int i = 0; i < 5; i++) busy.giveUp(i);
        busy.keep();
        for (int i = 0; i < 60; i++) busy.type("0=1,".charAt(i % 4));
        GuildFund late = new GuildFund();
        late.addMember(9);
        late.addInvoice(0, 0, 1000000, 0);
        for (int i = 0; i < 273; i++) late.pass(365);
        return new GuildFund[] {new GuildFund(), busy, late};
    }

    /** Each call with extreme arguments, in several states; what throws ends the test. */
    private static void checkExtremes() {
        for (int a : EXTREMES) {
            // New funds after some calls, as nothing is promised behind the 512th one.
            for (int from = 0; from < EXTREMES.length; from += 6) {
                for (GuildFund x : states()) {
                    for (int i = from; i < from + 6 && i < EXTREMES.length; i++) callAll(x, a, EXTREMES[i]);
                }
            }
        }
    }

    private static void callAll(GuildFund x, int a, int b) {
        x.rate(a);
        x.number(a);
        x.member(a, b);
        x.client(a, b);
        x.risk(a);
        x.lateness(a);
        x.invoice(a, b);
        x.rateIn(a, b);
        x.worth(a);
        x.best(a);
        x.exposure();
        x.count(a);
        x.refusal(a);
        if (b == 0) x.worthlessIn(a);
        x.setRate(a, b);
        x.setNumber(a, b);
        x.addMember(a);
        x.payDues(a, b);
        x.addInvoice(a, b, b, a);
        x.addInvoice(a, 0, 1000, 0);
        x.payAhead(a);
        x.pay(a, b);
        x.giveUp(a);
        x.pass(a);
        x.readPayments();
        if (a == b) x.clearText();
        x.type((char) a);
        x.undo();
        if (b == 1) x.keep();
        if (b == 2) x.restore();
    }

    /** A fund takes the same room when it is new and when it is full. */
    private static void checkRoomOfFund() throws IllegalAccessException {
        for (GuildFund x : states()) {
            Set<Object> found = Collections.newSetFromMap(new IdentityHashMap<>());
            int elements = elementsFrom(x, found);
            if (found.size() > MOST_OBJECTS) fault("a fund holds " + found.size() + " objects");
            if (elements > MOST_ELEMENTS) fault("a fund holds " + elements + " fields and elements");
        }
    }

    /** Finds all objects that are held; tells how many fields and elements they have. */
    private static int elementsFrom(Object first, Set<Object> found) throws IllegalAccessException {
        int elements = 0;
        Deque<Object> next = new ArrayDeque<>();
        next.add(first);
        while (!next.isEmpty()) {
            Object one = next.remove();
            if (!found.add(one)) continue;
            if (one.getClass().isArray()) {
                elements += Array.getLength(one);
                if (one instanceof Object[] held) addHeld(held, next);
                continue;
            }
            for (Field field : one.getClass().getDeclaredFields()) {
                if (Modifier.isStatic(field.getModifiers())) continue;
                elements++;
                field.setAccessible(true);
                if (!field.getType().isPrimitive()) addHeld(new Object[] {field.get(one)}, next);
            }
        }
        return elements;
    }

    private static void addHeld(Object[] held, Deque<Object> next) {
        for (Object one : held) {
            if (one != null) next.add(one);
        }
    }

    /** No call makes an object: the first rounds warm up, as the machine itself may make some when it starts. */
    private static void checkRoomOfCalls() {
        com.sun.management.ThreadMXBean threads = (com.sun.management.ThreadMXBean) ManagementFactory.getThreadMXBean();
        long thread = Thread.currentThread().getId();
        long least = Long.MAX_VALUE;
        for (int round = 0; round < 20; round++) {
            GuildFund x = states()[1];
            long before = threads.getThreadAllocatedBytes(thread);
            for (int i = 0; i < 6; i++) callAll(x, i, i);
            long bytes = threads.getThreadAllocatedBytes(thread) - before;
            least = Math.min(least, bytes);
        }
        long measuring = Long.MAX_VALUE;
        for (int round = 0; round < 20; round++) {
            long before = threads.getThreadAllocatedBytes(thread);
            measuring = Math.min(measuring, threads.getThreadAllocatedBytes(thread) - before);
        }
        if (least > measuring) fault("calls make objects of " + (least - measuring) + " bytes");
    }
}
