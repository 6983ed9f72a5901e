import java.lang.reflect.Field;
import java.util.List;

/**
 * Promise 61: isSound answers false as soon as one of its sentences does not hold. No call can bring a land so far, so
 * this test changes what the object holds inside; it knows the names of the fields.
 */
public final class SoundTest {
    public static void main(String[] args) {
        soundInEachState();
        stateThatNoLetterTells();
        lettersThatTellNoState();
        signatureThatIsMissing();
        authorWhoReported();
        authorInTheCommittee();
        publicVersionThatIsNotSigned();
        Check.end();
    }

    private static Object inside(Object object, String path) {
        Object at = object;
        try {
            for (String name : path.split("\\.")) {
                if (at instanceof List) {
                    at = ((List<?>) at).get(Integer.parseInt(name));
                } else {
                    Field field = at.getClass().getDeclaredField(name);
                    field.setAccessible(true);
                    at = field.get(at);
                }
            }
        } catch (ReflectiveOperationException e) {
            throw new IllegalStateException(e);
        }
        return at;
    }

    private static void set(Object object, String name, Object value) {
        try {
            Field field = object.getClass().getDeclaredField(name);
            field.setAccessible(true);
            field.set(object, value);
        } catch (ReflectiveOperationException e) {
            throw new IllegalStateException(e);
        }
    }

    private static void soundInEachState() {
        for (char state : Stage.STATES.toCharArray()) {
            Check.due("in state " + state, Stage.at(state).isSound(), true);
        }
        Refereehall appealed = Stage.at('x');
        appealed.appeal(0);
        Check.due("appealed", appealed.isSound(), true);
        Refereehall signed = Stage.at('d');
        signed.sign(0, 0);
        Check.due("half signed", signed.isSound(), true);
        signed.sign(0, 3);
        Check.due("signed", signed.isSound(), true);
        Refereehall transferred = Stage.at('s');
        transferred.revise(0, 1);
        transferred.sign(0, 0);
        transferred.sign(0, 3);
        Check.due("signed behind a transfer", transferred.isSound(), true);
    }

    /** "the state of each paper is what its letters tell" */
    private static void stateThatNoLetterTells() {
        for (char state : Stage.STATES.toCharArray()) {
            for (char other : (Stage.STATES + "?").toCharArray()) {
                Refereehall x = Stage.at(state);
                set(inside(x, "papers.0"), "state", other);
                // As published or retracted it would need a public version, too.
                Check.due(other + " instead of " + state, x.isSound(), other == state);
            }
        }
        Refereehall last = Stage.at('e');
        set(inside(last, "papers.2"), "state", 's');
        Check.due("that of the last paper", last.isSound(), false);
    }

    private static void lettersThatTellNoState() {
        for (char state : "seqkaxpwt".toCharArray()) {
            Refereehall x = Stage.at(state);
            Object file = inside(x, "papers.0.file");
            set(file, "count", x.letters(0) - 1);
            Check.due("without the last letter of " + state, x.isSound(), false);
        }
    }

    /** "each signed version has all signatures that it needs" */
    private static void signatureThatIsMissing() {
        for (int version = 0; version < 2; version++) {
            for (int missing : new int[] {0, 3}) {
                Refereehall x = Stage.at('e');
                int[] signatures = (int[]) inside(x, "papers.0.versions.signatures");
                signatures[version] &= ~(1 << missing);
                Check.due("without one signature", x.isSound(), false);
            }
        }
        Land land = new Land();
        land.withOneGone(0, 1);
        int[] signatures = (int[]) inside(land.x, "papers.0.versions.signatures");
        signatures[1] = 1;
        Check.due("without that of one of the version ahead", land.x.isSound(), false);
    }

    /** "nobody who is or was an author reported on a paper" */
    private static void authorWhoReported() {
        for (int version = 0; version < 2; version++) {
            Refereehall x = Stage.at('e');
            int[] authors = (int[]) inside(x, "papers.0.versions.authors");
            int[] signatures = (int[]) inside(x, "papers.0.versions.signatures");
            authors[version] |= 1 << 2;
            signatures[0] |= 1 << 2;
            signatures[1] |= 1 << 2;
            Check.due("an author of version " + version + " who reported", x.isSound(), false);
        }
    }

    /** "or is in its committee" */
    private static void authorInTheCommittee() {
        Refereehall x = Stage.at('k');
        x.seat(0);
        Check.due("a committee", x.isSound(), true);
        Object panel = inside(x, "papers.0.panel");
        set(panel, "members", 1 << 3 | 1 << 5 | 1 << 6);
        Check.due("with an author", x.isSound(), false);
    }

    /** "and what is public of a paper is a signed version" */
    private static void publicVersionThatIsNotSigned() {
        for (char state : new char[] {'p', 't'}) {
            Refereehall x = Stage.at('p');
            x.correct(0, 1);
            x.sign(0, 0);
            if (state == 't') {
                x.retract(0);
            }
            Check.due("the elder one is public", x.isSound(), true);
            set(inside(x, "papers.0.versions"), "shown", 2);
            Check.due("one that is half signed", x.isSound(), false);
            set(inside(x, "papers.0.versions"), "shown", -1);
            Check.due("none", x.isSound(), false);
        }
    }
}
