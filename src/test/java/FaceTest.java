import java.lang.reflect.Constructor;
import java.lang.reflect.Field;
import java.lang.reflect.Method;
import java.lang.reflect.Modifier;
import java.util.Arrays;
import java.util.TreeSet;

/** Promises 1 and 30, and the public face. */
public final class FaceTest {
    private static final String[] FACE = {
        "int horse(int,int,int,int)", "boolean lame(int,boolean)", "boolean spans(int,int)", "boolean way(int,int,int)",
        "boolean carriages(int)", "boolean need(int)", "boolean match(int)", "int matches(int)",
        "int job(int,int,int,int,int,int)", "boolean drop(int)", "int of(int,int)", "boolean behind(int,int)",
        "int empty()", "int chains()", "int chain(int)", "boolean team(int,int)", "int right(int)",
        "int strength(int,int)", "int standIn(int,int)", "int feed(int,int,int,int,int)", "int end(int)",
        "int prices()", "int fault(int)", "int price(int,int)", "int broken(int,int,int,int)",
        "boolean untell(int,int)", "int whole(int,int,int)", "int free(int,int,int,int)", "int about(int)"};

    private FaceTest() {
    }

    public static void main(String[] args) {
        faceIsTheDocuments();
        classesInsideAreHiddenAndStatic();
        newObject();
        newObjectsAreApart();
        aboutCountsAll();
        Due.finish();
    }

    private static void faceIsTheDocuments() {
        TreeSet<String> seen = new TreeSet<>();
        for (Method m : CarriageHire.class.getDeclaredMethods()) {
            if (!Modifier.isPrivate(m.getModifiers())) {
                StringBuilder text = new StringBuilder(m.getReturnType() + " " + m.getName() + "(");
                for (Class<?> p : m.getParameterTypes()) {
                    text.append(text.charAt(text.length() - 1) == '(' ? "" : ",").append(p);
                }
                seen.add(text + ")");
                Due.is("face: plainly public, " + m.getName(), m.getModifiers(), Modifier.PUBLIC);
            }
        }
        Due.yes("face: the methods " + seen, seen.equals(new TreeSet<>(Arrays.asList(FACE))));
        Due.yes("face: the class is public and final",
                CarriageHire.class.getModifiers() == (Modifier.PUBLIC | Modifier.FINAL));
        int shown = 0;
        for (Field f : CarriageHire.class.getDeclaredFields()) {
            shown += Modifier.isPrivate(f.getModifiers()) ? 0 : 1;
        }
        Due.is("face: NONE is the only field", shown, 1);
        Due.is("face: NONE", CarriageHire.NONE, -1);
        Constructor<?>[] made = CarriageHire.class.getDeclaredConstructors();
        Due.is("face: one constructor", made.length, 1);
        Due.is("face: without parameters", made[0].getParameterCount(), 0);
    }

    private static void classesInsideAreHiddenAndStatic() {
        for (Class<?> inside : CarriageHire.class.getDeclaredClasses()) {
            int is = inside.getModifiers();
            Due.yes("rule 1: " + inside, Modifier.isStatic(is) && !Modifier.isPublic(is) && !Modifier.isProtected(is));
            for (Method m : inside.getDeclaredMethods()) {
                for (String face : FACE) {
                    Due.no("rule 1: " + m, face.contains(" " + m.getName() + "("));
                }
            }
        }
    }

    private static void newObject() {
        CarriageHire x = new CarriageHire();
        int[] about = {0, 0, 2, 0, 0, 0};
        for (int what = 0; what < about.length; what++) {
            Due.is("1: about(" + what + ")", x.about(what), about[what]);
        }
        Due.is("1: no LAY is needed", x.empty(), 0);
        Due.is("1: no CHAINS", x.chains(), 0);
        Due.is("1: no CHAIN", x.chain(0), CarriageHire.NONE);
        Due.is("1: no FAULT", x.fault(0), 0);
        Due.is("1: no place", x.fault(1), CarriageHire.NONE);
        Due.is("1: no JOB", x.of(0, 0), CarriageHire.NONE);
        Due.is("1: whole", x.whole(5, 0, 5000), 1);
        for (int from = 0; from < 8; from++) {
            x.job(0, from, (from + 3) % 8, 100, 0, 1);
            Due.is("1: WAYS are 0", x.of(from, 0), 100);
        }
        Due.is("1: all WAYS are 0", x.empty(), 0);
        Due.is("1: no PRICES", x.of(0, 3), 0);
        Due.is("1: so no PRICE", x.price(0, 0), 0);
    }

    private static void newObjectsAreApart() {
        CarriageHire x = new CarriageHire();
        x.horse(1, 150, 5, 5);
        x.way(0, 1, 9);
        x.carriages(5);
        x.job(0, 0, 1, 100, 0, 1);
        x.broken(0, 1, 2, 3);
        Due.prices(x, "price 1;");
        x.feed(1, 2, 3, 4, 5);
        newObject();
    }

    private static void aboutCountsAll() {
        CarriageHire x = new CarriageHire();
        x.horse(1, 150, 5, 5);
        for (int n = 0; n < 2; n++) {
            x.job(0, 0, 1, 100, 0, 1);
        }
        x.carriages(4);
        Due.prices(x, "price 1; price 2; price 3;");
        for (int n = 0; n < 5; n++) {
            x.broken(0, 1, 2, 3);
        }
        x.feed(0, 0, 0, 0, 0);
        x.end(6);
        int[] about = {1, 2, 4, 3, 5, 6};
        for (int what = 0; what < about.length; what++) {
            Due.is("30: about(" + what + ")", x.about(what), about[what]);
        }
        x.drop(0);
        Due.is("30: dropped ones, too", x.about(1), 2);
        x.untell(0, 4);
        Due.is("30: UNTOLD ones, too", x.about(4), 5);
        for (int what : new int[] {-1, 6, 7, Integer.MAX_VALUE, Integer.MIN_VALUE}) {
            Due.is("30: about(" + what + ")", x.about(what), CarriageHire.NONE);
        }
        x.prices();
        Due.is("30: the TAPE is empty behind prices()", x.about(5), 0);
    }
}
