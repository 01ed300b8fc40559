import java.lang.reflect.Constructor;
import java.lang.reflect.Field;
import java.lang.reflect.Method;
import java.lang.reflect.Modifier;
import java.util.Arrays;
import java.util.TreeSet;

/** The public face: the constants, and nothing public beyond what the document lists. */
final class FaceTest {
    private static final String[] METHODS = {"append int int int int int", "load int", "errorKind", "errorOffset",
        "clock", "isNight", "gracePeriod", "lateFee", "streetCount", "borrowerCount", "loanCount", "permitCount",
        "loansWith int", "undoCount", "noiseNow int", "noiseAt int int", "noiseTotal int", "quietHours int",
        "loudestStreet", "streetOf int", "illnessOf int", "creditOf int", "overdueLoans int", "mostIll",
        "borrowerOf int", "startOf int", "lengthOf int", "priceOf int", "statusOf int", "holderOf int",
        "permitFor int int", "freeHours", "quote int int", "refusal int int int", "refusalCause int int int",
        "displacedBy int int int", "earliestStart int int", "earliestPeacefulStart int int", "illnessAfter int int",
        "meanNoise int", "lentShare", "ledgerDifference", "lend int int int", "cancel int", "whistle int",
        "grantPermit int int int", "revokePermit int", "pay int int", "advance int", "restore int", "undo",
        "save int", "writeSchedule", "writeBorrower int", "outputByte int"};

    public static void main(String[] args) {
        Check.same("NONE", -1, SilenceBureau.NONE);
        Check.same("PLANNED", 0, SilenceBureau.PLANNED);
        Check.same("RUNNING", 1, SilenceBureau.RUNNING);
        Check.same("ENDED", 2, SilenceBureau.ENDED);
        Check.same("RETURNED", 3, SilenceBureau.RETURNED);
        Check.same("OVERDUE", 4, SilenceBureau.OVERDUE);
        Check.same("CANCELLED", 5, SilenceBureau.CANCELLED);
        methods();
        members();
        Check.end("FaceTest");
    }

    private static void methods() {
        TreeSet<String> found = new TreeSet<>();
        TreeSet<String> publicNames = new TreeSet<>();
        for (Method method : SilenceBureau.class.getDeclaredMethods()) {
            StringBuilder signature = new StringBuilder(method.getName());
            for (Class<?> type : method.getParameterTypes()) {
                signature.append(' ').append(type.getName());
            }
            if (Modifier.isPublic(method.getModifiers())) {
                found.add(signature.toString());
                publicNames.add(method.getName());
                Check.same("type of " + signature, resultOf(method.getName()), method.getReturnType().getName());
            }
        }
        Check.same("public methods", new TreeSet<>(Arrays.asList(METHODS)), found);
        for (Method method : SilenceBureau.class.getDeclaredMethods()) {
            if (!Modifier.isPublic(method.getModifiers())) {
                Check.same(method + " is private", true, Modifier.isPrivate(method.getModifiers()));
                Check.same(method + " has a name of its own", false, publicNames.contains(method.getName()));
            }
        }
    }

    private static String resultOf(String method) {
        switch (method) {
            case "isNight":
                return "boolean";
            case "meanNoise":
                return "double";
            case "lentShare":
                return "float";
            default:
                return "int";
        }
    }

    private static void members() {
        Check.same("the class is final", true, Modifier.isFinal(SilenceBureau.class.getModifiers()));
        int constants = 0;
        for (Field field : SilenceBureau.class.getDeclaredFields()) {
            if (Modifier.isPublic(field.getModifiers())) {
                constants++;
            } else {
                Check.same(field + " is private", true, Modifier.isPrivate(field.getModifiers()));
            }
            if (Modifier.isStatic(field.getModifiers())) {
                Check.same(field + " is final", true, Modifier.isFinal(field.getModifiers()));
            }
        }
        Check.same("public constants", 7, constants);
        Constructor<?>[] constructors = SilenceBureau.class.getDeclaredConstructors();
        Check.same("constructors", 1, constructors.length);
        Check.same("its parameters", 0, constructors[0].getParameterCount());
        Check.same("it is public", true, Modifier.isPublic(constructors[0].getModifiers()));
    }
}
