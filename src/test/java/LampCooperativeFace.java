import java.lang.reflect.Constructor;
import java.lang.reflect.Field;
import java.lang.reflect.Method;
import java.lang.reflect.Modifier;
import java.util.Set;
import java.util.TreeSet;

/** The members of the class are those of the document's public face and no others. */
public final class LampCooperativeFace {
    private static final String INDEX = " IndexOutOfBoundsException";
    private static final String ARGUMENT = " IllegalArgumentException";
    private static final String STATE = " IllegalStateException";
    private static final String NO_ELEMENT = " NoSuchElementException";
    private static final String[] FACE = {
        "int addLamp(int,int)" + ARGUMENT + STATE, "int removeLamp(int)" + INDEX + STATE,
        "int setShares(int,int)" + INDEX + ARGUMENT, "int setBrightness(int,int)" + INDEX + ARGUMENT,
        "boolean switchOn(int)" + INDEX, "boolean switchOff(int)" + INDEX, "int lampCount()",
        "int streetOf(int)" + INDEX, "int sharesOf(int)" + INDEX, "int brightnessOf(int)" + INDEX,
        "boolean isOn(int)" + INDEX, "int oilOf(int)" + INDEX, "int wickOf(int)" + INDEX,
        "int balanceOf(int)" + INDEX, "int deliverOil(int)" + ARGUMENT + STATE,
        "int buyOil(int,int)" + INDEX + ARGUMENT + STATE, "int donateWicks(int)" + ARGUMENT + STATE,
        "int giveWick(int,int)" + INDEX + ARGUMENT + STATE, "int returnWick(int,int)" + INDEX + ARGUMENT + STATE,
        "int payDividend()" + STATE, "int reserve()", "int pool()", "int treasury()",
        "int portionOf(int,int)" + INDEX + ARGUMENT, "int portionByRounds(int,int)" + INDEX + ARGUMENT,
        "int addMoth(int)" + INDEX + STATE, "int moveMoth(int,int)" + INDEX, "int mothCount()",
        "int lampOfMoth(int)" + INDEX, "int strikesOf(int)" + INDEX, "int probationOf(int)" + INDEX,
        "boolean isMember(int)" + INDEX, "int burnNight()", "int nightCount()", "boolean canBurn(int)" + INDEX,
        "int nightsOf(int)" + INDEX, "int nightsBySimulation(int)" + INDEX, "int glowOf(int)" + INDEX,
        "boolean isDark(int)" + INDEX, "int brightestStreet()", "boolean proposeCap(int)" + ARGUMENT + STATE,
        "int votesFor(int)" + ARGUMENT, "int lowestCap()" + NO_ELEMENT, "int totalShares()",
        "int richestLamp(int)" + NO_ELEMENT, "int longestLamp(int)" + NO_ELEMENT, "int writeLamp(int)" + INDEX,
        "char lineAt(int)" + INDEX, "double meanOil() ArithmeticException", "boolean isBalanced()",
        "int type(char)" + ARGUMENT + STATE, "int execute()" + ARGUMENT + STATE, "int errorPosition()" + NO_ELEMENT,
        "int failedCommand()" + NO_ELEMENT, "int undo()" + STATE, "int save()", "int restore()" + STATE};

    private static int wrong = 0;

    private static void check(boolean fine, String fault) {
        if (!fine) {
            wrong++;
            System.out.println(fault);
        }
    }

    private static String described(Method method) {
        StringBuilder text = new StringBuilder(method.getReturnType().getSimpleName());
        text.append(' ').append(method.getName()).append('(');
        for (Class<?> parameter : method.getParameterTypes()) {
            text.append(text.charAt(text.length() - 1) == '(' ? "" : ",").append(parameter.getSimpleName());
        }
        text.append(')');
        for (Class<?> exception : method.getExceptionTypes()) {
            text.append(' ').append(exception.getSimpleName());
        }
        return text.toString();
    }

    private static void checkMethods() {
        Set<String> due = new TreeSet<>(Set.of(FACE));
        Set<String> found = new TreeSet<>();
        Set<String> publicNames = new TreeSet<>();
        for (Method method : LampCooperative.class.getDeclaredMethods()) {
            if (!Modifier.isPrivate(method.getModifiers())) {
                check(method.getModifiers() == Modifier.PUBLIC, method + " is not just public");
                found.add(described(method));
                publicNames.add(method.getName());
            }
        }
        check(found.equals(due), "the face is " + found + ", due is " + due);
        checkPrivateNames(LampCooperative.class, publicNames);
        for (Class<?> inside : LampCooperative.class.getDeclaredClasses()) {
            checkPrivateNames(inside, publicNames);
        }
    }

    private static void checkPrivateNames(Class<?> type, Set<String> publicNames) {
        for (Method method : type.getDeclaredMethods()) {
            if (!Modifier.isPublic(method.getModifiers())) {
                check(!publicNames.contains(method.getName()), method + " bears the name of a public method");
            }
        }
    }

    private static void checkRest() {
        Class<?> type = LampCooperative.class;
        check(type.getModifiers() == (Modifier.PUBLIC | Modifier.FINAL), "the class is not public and final");
        check(type.getInterfaces().length == 0 && type.getSuperclass() == Object.class, "the class has a supertype");
        Constructor<?>[] constructors = type.getDeclaredConstructors();
        check(constructors.length == 1 && constructors[0].getParameterCount() == 0
                && Modifier.isPublic(constructors[0].getModifiers()), "the constructor is not the document's");
        for (Field field : type.getDeclaredFields()) {
            check(Modifier.isPrivate(field.getModifiers()), field + " is not private");
            check(!Modifier.isStatic(field.getModifiers()) || Modifier.isFinal(field.getModifiers()),
                    field + " is a static field that changes");
        }
        for (Class<?> inside : type.getDeclaredClasses()) {
            check(Modifier.isPrivate(inside.getModifiers()) && Modifier.isStatic(inside.getModifiers()),
                    inside + " is not private and static");
        }
    }

    public static void main(String[] args) {
        checkMethods();
        checkRest();
        System.out.println(wrong == 0 ? "the face is the document's" : wrong + " members are wrong");
        if (wrong != 0) {
            System.exit(1);
        }
    }
}
