import java.lang.reflect.Constructor;
import java.lang.reflect.Field;
import java.lang.reflect.Method;
import java.lang.reflect.Modifier;
import java.util.Arrays;
import java.util.Set;
import java.util.TreeSet;

/** The public face of the document, no more and no less, and what a new object answers (promise 1). */
public final class FaceTest {
    private static final String[] FACE = {
        "public boolean SecurePair.offer(int,int,int)",
        "public boolean SecurePair.secret(int,int)",
        "public int SecurePair.host(int)",
        "public void SecurePair.trust(int)",
        "public int SecurePair.begin(int) throws java.lang.IndexOutOfBoundsException,java.lang.IllegalStateException",
        "public int SecurePair.deliver(int) throws java.lang.IndexOutOfBoundsException",
        "public int SecurePair.open(int) throws java.lang.IndexOutOfBoundsException,java.lang.IllegalStateException,"
            + "java.lang.UnsupportedOperationException",
        "public int SecurePair.write(int,int,long,int) throws java.lang.IndexOutOfBoundsException,"
            + "java.lang.IllegalStateException,java.lang.IllegalArgumentException",
        "public int SecurePair.read(int,int) throws java.lang.IndexOutOfBoundsException",
        "public int SecurePair.close(int,int) throws java.lang.IndexOutOfBoundsException,java.lang.IllegalStateException",
        "public boolean SecurePair.leave(int,int)",
        "public boolean SecurePair.lose(int)",
        "public boolean SecurePair.twice(int)",
        "public boolean SecurePair.swap(int)",
        "public boolean SecurePair.insert(int,int,long,long)",
        "public boolean SecurePair.alter(int,int,int)",
        "public long SecurePair.phase(int)",
        "public long SecurePair.session(int)",
        "public int SecurePair.state(int,int)",
        "public long SecurePair.channel(int,int)",
        "public long SecurePair.packet(int,int,int)",
        "public int SecurePair.line(int)",
    };

    public static void main(String[] args) {
        membersAreTheFace();
        newObject();
        newObjectOffersAndSecrets();
        Check.end();
    }

    private static void membersAreTheFace() {
        Set<String> face = new TreeSet<>(Arrays.asList(FACE));
        Set<String> names = new TreeSet<>();
        for (Method method : SecurePair.class.getDeclaredMethods()) {
            if (Modifier.isPublic(method.getModifiers())) {
                Check.yes("in the face: " + method, face.remove(method.toString()));
                Check.yes("one public method of the name " + method.getName(), names.add(method.getName()));
            } else {
                Check.yes("private: " + method, Modifier.isPrivate(method.getModifiers()));
            }
        }
        for (Method method : SecurePair.class.getDeclaredMethods()) {
            if (!Modifier.isPublic(method.getModifiers())) {
                Check.no("private with a public name: " + method, names.contains(method.getName()));
            }
        }
        Check.same("missing in the face: " + face, face.size(), 0);
        for (Field field : SecurePair.class.getDeclaredFields()) {
            Check.yes("private: " + field, Modifier.isPrivate(field.getModifiers()));
        }
        for (Constructor<?> constructor : SecurePair.class.getDeclaredConstructors()) {
            Check.yes("the only constructor", constructor.toString().equals("public SecurePair()"));
        }
        Check.yes("final", Modifier.isFinal(SecurePair.class.getModifiers()));
    }

    private static void newObject() {
        SecurePair pair = new SecurePair();
        for (int e = 0; e < 2; e++) {
            Check.same("phase of a new endpoint", pair.phase(e), 0);
            Check.same("session of a new endpoint", pair.session(e), 0);
            Check.same("line of a new endpoint", pair.line(e), 0);
            for (int what = 0; what < 4; what++) {
                Check.same("state " + what + " of a new endpoint", pair.state(e, what), 0);
            }
            for (int c = 0; c < 3; c++) {
                Check.same("channel " + c + " of a new endpoint", pair.channel(e, c), 0);
            }
        }
    }

    private static void newObjectOffersAndSecrets() {
        SecurePair pair = Pairs.sharing();
        Check.same("the client's first share", pair.packet(1, 0, 1), Crypto.power(7, 2));
        pair.deliver(1);
        Check.same("the server's first public part", pair.packet(0, 0, 1), Crypto.power(7, 5));
        Check.same("the server's first share", pair.packet(0, 0, 2), Crypto.power(7, 3));
        SecurePair other = new SecurePair();
        other.begin(0);
        other.begin(1);
        for (int e = 0; e < 2; e++) {
            Check.same("first ciphers, told to " + e, other.packet(e, 0, 2), 1);
            Check.same("first tag kinds, told to " + e, other.packet(e, 0, 3), 1);
        }
        Pairs.settle(pair);
        Check.same("nobody is trusted at first, so any part will do", pair.phase(0), 4);
    }
}
