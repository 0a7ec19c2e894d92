import java.lang.reflect.Constructor;
import java.lang.reflect.Field;
import java.lang.reflect.Method;
import java.lang.reflect.Modifier;
import java.util.TreeSet;

/** The public face, its constants, and promise 1: a new object. */
final class FaceTest {
    private static final String[] METHODS = {"setLevel/1", "setRate/2", "addRamp/3", "setFee/2", "setFine/2",
        "buy/4", "move/2", "cancel/1", "refund/1", "pass/1", "launch/3", "take/1", "restore/1", "undo/0",
        "append/1", "clearText/0", "run/0", "failure/1", "count/1", "ramp/2", "permit/2", "money/1",
        "rate/1", "forecast/1", "closure/2", "draughtFor/3", "bestRamp/3", "expected/2", "part/1",
        "volume/1"};

    private final Due due = new Due("FaceTest");

    public static void main(String[] args) {
        FaceTest test = new FaceTest();
        test.constants();
        test.members();
        test.newObject();
        test.newObjectsShareNothing();
        test.due.finish();
    }

    private void constants() {
        due.part("constants");
        due.is("INVALID_ARGUMENT", RampPermits.INVALID_ARGUMENT, -100001);
        due.is("ILLEGAL_STATE", RampPermits.ILLEGAL_STATE, -100002);
        due.is("CAPACITY_EXCEEDED", RampPermits.CAPACITY_EXCEEDED, -100003);
        due.is("NONE", RampPermits.NONE, -100009);
    }

    private void members() {
        due.part("public face");
        due.isTrue("the class is public and final",
            RampPermits.class.getModifiers() == (Modifier.PUBLIC | Modifier.FINAL));
        TreeSet<String> want = new TreeSet<>();
        for (String name : METHODS) {
            want.add(name);
        }
        TreeSet<String> got = new TreeSet<>();
        TreeSet<String> hidden = new TreeSet<>();
        for (Method method : RampPermits.class.getDeclaredMethods()) {
            if (Modifier.isPrivate(method.getModifiers())) {
                hidden.add(method.getName());
            } else {
                got.add(method.getName() + "/" + method.getParameterCount());
                due.isTrue(method + " is a public method of the object that answers an int",
                    method.getModifiers() == Modifier.PUBLIC && method.getReturnType() == int.class);
            }
        }
        due.isTrue("methods " + got + " are the document's", got.equals(want));
        for (String name : METHODS) {
            due.isTrue("no private method is called " + name,
                !hidden.contains(name.substring(0, name.indexOf('/'))));
        }
        publicFields();
        Constructor<?>[] constructors = RampPermits.class.getDeclaredConstructors();
        due.is("constructors", constructors.length, 1);
        due.isTrue("the constructor is public and takes nothing",
            Modifier.isPublic(constructors[0].getModifiers()) && constructors[0].getParameterCount() == 0);
    }

    private void publicFields() {
        int constants = 0;
        for (Field field : RampPermits.class.getDeclaredFields()) {
            int modifiers = field.getModifiers();
            due.isTrue(field + " is final", Modifier.isFinal(modifiers));
            if (!Modifier.isPrivate(modifiers)) {
                constants++;
                due.isTrue(field + " is a constant", Modifier.isPublic(modifiers) && Modifier.isStatic(modifiers));
            }
        }
        due.is("public fields", constants, 4);
    }

    private void newObject() {
        due.part("promise 1");
        RampPermits x = new RampPermits();
        int[] counts = {0, 2000, 0, 0, 0, 0, 0, 0, 40, 60, 20, 0, 0, 0};
        for (int what = 0; what < counts.length; what++) {
            due.is("count(" + what + ")", x.count(what), counts[what]);
        }
        for (int what = 0; what <= 5; what++) {
            due.is("money(" + what + ")", x.money(what), 0);
        }
        for (int week = 0; week < 26; week++) {
            due.is("rate(" + week + ")", x.rate(week), 0);
        }
        for (int what = 0; what <= 4; what++) {
            due.is("failure(" + what + ")", x.failure(what), RampPermits.NONE);
        }
        due.is("forecast(0)", x.forecast(0), 2000);
        due.is("forecast(181)", x.forecast(181), 2000);
        due.is("ramp(0, 0)", x.ramp(0, 0), RampPermits.INVALID_ARGUMENT);
        due.is("permit(0, 0)", x.permit(0, 0), RampPermits.INVALID_ARGUMENT);
        due.is("restore(0)", x.restore(0), RampPermits.ILLEGAL_STATE);
        due.is("restore(1)", x.restore(1), RampPermits.ILLEGAL_STATE);
        due.is("undo()", x.undo(), RampPermits.ILLEGAL_STATE);
        due.is("clearText()", x.clearText(), 0);
        due.is("run()", x.run(), 0);
    }

    private void newObjectsShareNothing() {
        due.part("promise 1, two objects");
        RampPermits one = new RampPermits();
        RampPermits other = new RampPermits();
        String before = Calls.stateOf(other);
        one.addRamp(1000, 2, 30);
        one.buy(0, 0, 5, 100);
        one.setLevel(7);
        one.setRate(3, 4);
        one.setFine(1, 5);
        one.launch(0, 0, -1);
        one.take(0);
        one.append('a');
        one.run();
        due.isTrue("the other object is as it was", before.equals(Calls.stateOf(other)));
        due.is("other.failure(0)", other.failure(0), RampPermits.NONE);
    }
}
