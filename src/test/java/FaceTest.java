import java.lang.reflect.Constructor;
import java.lang.reflect.Field;
import java.lang.reflect.Method;
import java.lang.reflect.Modifier;
import java.util.Arrays;
import java.util.Set;
import java.util.TreeSet;

/** The class has the document's face, and nothing else that can be seen from outside. */
public final class FaceTest {
    private static final String[] FACE = {
        "int addLand(int,int,int) IllegalArgumentException IllegalStateException",
        "int addAct(int,int,int,int) IndexOutOfBoundsException IllegalArgumentException IllegalStateException",
        "int getLine(int) IndexOutOfBoundsException",
        "int setWind(int,char) IllegalArgumentException",
        "int setTide(int,int) IllegalArgumentException",
        "int addTown(int,int,int,int) IndexOutOfBoundsException IllegalArgumentException IllegalStateException",
        "int pass(int) IllegalArgumentException",
        "int addShip(int,int) IllegalArgumentException IllegalStateException",
        "int getPlace(int,boolean) IndexOutOfBoundsException",
        "int getInside(int) IndexOutOfBoundsException",
        "int anchor(int,char) IndexOutOfBoundsException IllegalArgumentException UnsupportedOperationException",
        "int weigh(int) IndexOutOfBoundsException UnsupportedOperationException",
        "boolean isAground(int) IndexOutOfBoundsException",
        "int pullOff(int) IndexOutOfBoundsException UnsupportedOperationException",
        "int addGenerator(int,int,int) IndexOutOfBoundsException IllegalArgumentException IllegalStateException",
        "int setGenerator(int,int,boolean) IndexOutOfBoundsException",
        "int getFuel(int) IndexOutOfBoundsException",
        "int getFood(int) IndexOutOfBoundsException",
        "int getSalt(int) IndexOutOfBoundsException",
        "int wash(int) IndexOutOfBoundsException UnsupportedOperationException",
        "int setPower(int,int) IndexOutOfBoundsException IllegalArgumentException",
        "int getChannel(int) IndexOutOfBoundsException",
        "boolean isOnAir(int) IndexOutOfBoundsException",
        "int getSignal(int,int) IndexOutOfBoundsException",
        "int getHeard(int) IndexOutOfBoundsException",
        "int getListeners(int) IndexOutOfBoundsException",
        "int addPerson(int,char) IndexOutOfBoundsException IllegalArgumentException IllegalStateException",
        "int getAboard(int) IndexOutOfBoundsException",
        "boolean isTired(int) IndexOutOfBoundsException",
        "int load(int,int,int,int) IndexOutOfBoundsException IllegalArgumentException",
        "int book(int,int,boolean) IndexOutOfBoundsException UnsupportedOperationException",
        "int send(int,int,boolean) IndexOutOfBoundsException UnsupportedOperationException",
        "int plan(int,int,int) IndexOutOfBoundsException IllegalArgumentException",
        "int getSpeaker(int) IndexOutOfBoundsException NoSuchElementException",
        "boolean isMutiny(int) IndexOutOfBoundsException",
        "int sell(int,int) IndexOutOfBoundsException IllegalArgumentException UnsupportedOperationException",
        "int bank(int) IndexOutOfBoundsException",
        "int getEarned(int) IndexOutOfBoundsException",
        "int getMoney()",
        "int getEvidence(int) IndexOutOfBoundsException",
        "int raid(int,int) IndexOutOfBoundsException UnsupportedOperationException",
        "boolean board(int,int) IndexOutOfBoundsException IllegalArgumentException UnsupportedOperationException",
        "int getKept()",
        "int addRecording(int,int,int) IllegalArgumentException IllegalStateException",
        "int addAhead(int,int) IndexOutOfBoundsException IllegalArgumentException UnsupportedOperationException",
        "int getChoices(int) IndexOutOfBoundsException",
        "int getDate(int,boolean) IndexOutOfBoundsException NoSuchElementException",
        "float getNightShare() ArithmeticException",
        "double getMeanCrew() ArithmeticException",
        "long checksum()",
        "boolean isSound()"
    };

    public static void main(String[] args) {
        Class<?> face = GalleonWave.class;
        Check.due("public and final", face.getModifiers(), Modifier.PUBLIC | Modifier.FINAL);
        Set<String> names = new TreeSet<>();
        Set<String> signatures = new TreeSet<>();
        for (Method method : face.getDeclaredMethods()) {
            if (Modifier.isPublic(method.getModifiers())) {
                signatures.add(signature(method));
                names.add(method.getName());
            } else {
                Check.due(method + " is private", Modifier.isPrivate(method.getModifiers()), true);
            }
        }
        for (String line : FACE) {
            Check.due("the face has " + line, signatures.remove(line), true);
        }
        Check.due("the face has no more than that, but " + signatures, signatures.size(), 0);
        for (Method method : face.getDeclaredMethods()) {
            boolean isOwn = Modifier.isPublic(method.getModifiers()) || !names.contains(method.getName());
            Check.due(method + " has a name of its own", isOwn, true);
        }
        Constructor<?>[] constructors = face.getDeclaredConstructors();
        Check.due("one constructor", constructors.length, 1);
        Check.due("without arguments", constructors[0].getParameterCount(), 0);
        Check.due("public", Modifier.isPublic(constructors[0].getModifiers()), true);
        for (Field field : face.getDeclaredFields()) {
            Check.due(field + " is private", Modifier.isPrivate(field.getModifiers()), true);
        }
        checkInside(face, names);
        Check.end("FaceTest");
    }

    private static String signature(Method method) {
        StringBuilder text = new StringBuilder(method.getReturnType().getSimpleName());
        text.append(' ').append(method.getName()).append('(');
        text.append(String.join(",", Arrays.stream(method.getParameterTypes()).map(Class::getSimpleName).toList()));
        text.append(')');
        for (Class<?> thrown : method.getExceptionTypes()) {
            text.append(' ').append(thrown.getSimpleName());
        }
        return text.toString();
    }

    private static void checkInside(Class<?> face, Set<String> publicNames) {
        Check.due("some twelve classes", face.getDeclaredClasses().length <= 11, true);
        checkClass(face, 20);
        for (Class<?> inside : face.getDeclaredClasses()) {
            int modifiers = inside.getModifiers();
            Check.due(inside + " is private", Modifier.isPrivate(modifiers), true);
            Check.due(inside + " is static", Modifier.isStatic(modifiers), true);
            checkClass(inside, 20);
            for (Method method : inside.getDeclaredMethods()) {
                Check.due(method + " has a name of its own", publicNames.contains(method.getName()), false);
            }
        }
    }

    private static void checkClass(Class<?> one, int mostFields) {
        int fields = 0;
        for (Field field : one.getDeclaredFields()) {
            if (Modifier.isStatic(field.getModifiers())) {
                Check.due(field + " is final", Modifier.isFinal(field.getModifiers()), true);
            } else {
                fields++;
            }
        }
        Check.due("fields of " + one, fields <= mostFields, true);
        for (Method method : one.getDeclaredMethods()) {
            Check.due("parameters of " + method, method.getParameterCount() <= 7, true);
        }
    }
}
