import java.util.ArrayList;
import java.util.Arrays;
import java.util.List;
import java.util.function.Supplier;

/**
 * Each "Throws" line of the document: the numbers just inside and just outside of each range, each state and other
 * cause that refuses a call, which exception is thrown as several apply, and that nothing is changed by it.
 */
public final class ThrowsTest {
    private static final String B = "throws.IndexOutOfBoundsException";
    private static final String A = "throws.IllegalArgumentException";
    private static final String U = "throws.UnsupportedOperationException";
    private static final String N = "throws.NoSuchElementException";
    private static final String S = "throws.IllegalStateException";
    private static final String M = "throws.ArithmeticException";
    private static final String UNPUBLISHED = "dseqkaxw";

    /** The numbers that a parameter may have, and what is thrown outside of them. */
    private static final class Range {
        final int at;
        final int least;
        final int most;
        final String thrown;

        Range(int itsPlace, int itsLeast, int itsMost, String itsThrown) {
            at = itsPlace;
            least = itsLeast;
            most = itsMost;
            thrown = itsThrown;
        }

        int[] outside() {
            return new int[] {least - 1, most + 1, Integer.MIN_VALUE, Integer.MAX_VALUE};
        }
    }

    private final String name;
    private final String spec;

    private ThrowsTest(String itsName, String itsSpec) {
        name = itsName;
        spec = itsSpec;
    }

    /** A call with its parameters: paper, person, field, words, a range of numbers, or - for any value. */
    private static ThrowsTest of(String name, String spec) {
        return new ThrowsTest(name, spec);
    }

    public static void main(String[] args) {
        peopleAndFields();
        papers();
        editorsAndReferees();
        decisions();
        whatIsPublic();
        programs();
        whatTiesAndWatches();
        corrections();
        indexes();
        records();
        emptyLand();
        fullLand();
        Check.end();
    }

    // ---- how a call is tested

    private List<Range> ranges(Refereehall x) {
        List<Range> all = new ArrayList<>();
        String[] kinds = spec.split(" ");
        Check.due(name + " has so many parameters", kinds.length, Calls.types(name).length);
        for (int i = 0; i < kinds.length; i++) {
            if (kinds[i].equals("paper")) {
                all.add(new Range(i, 0, count(x, "state") - 1, B));
            } else if (kinds[i].equals("person")) {
                all.add(new Range(i, 0, count(x, "index") - 1, B));
            } else if (kinds[i].equals("field")) {
                all.add(new Range(i, 0, 7, A));
            } else if (kinds[i].equals("words")) {
                all.add(new Range(i, 0, 1048575, A));
            } else if (!kinds[i].equals("-")) {
                String[] ends = kinds[i].split("\\.\\.");
                all.add(new Range(i, Integer.parseInt(ends[0]), Integer.parseInt(ends[1]), A));
            }
        }
        return all;
    }

    private static int count(Refereehall x, String reader) {
        int many = 0;
        while (!Calls.hasThrown(Calls.make(x, reader, many))) {
            many++;
        }
        return many;
    }

    private static Object[] with(Object[] base, int at, int value) {
        Object[] arguments = base.clone();
        arguments[at] = value;
        return arguments;
    }

    private void due(Refereehall x, String what, String thrown, Object... arguments) {
        String before = Snapshot.of(x);
        String call = name + Arrays.toString(arguments) + " " + what;
        Check.due(call, Calls.make(x, name, arguments), thrown);
        Check.due(call + " changes nothing", Snapshot.of(x).equals(before), true);
    }

    /** The call is made; but not with a number outside of a range, and as two are, the first listed is thrown. */
    private ThrowsTest makes(Supplier<Refereehall> land, Object... base) {
        Object answer = Calls.make(land.get(), name, base);
        Check.due(name + Arrays.toString(base) + " throws", Calls.hasThrown(answer) ? answer : "nothing", "nothing");
        Refereehall same = land.get();
        List<Range> ranges = ranges(same);
        for (Range range : ranges) {
            for (int inside : new int[] {range.least, range.most}) {
                Object edge = Calls.make(land.get(), name, with(base, range.at, inside));
                Check.due(name + " refuses " + inside + " at " + range.at, edge.equals(range.thrown), false);
            }
            for (int outside : range.outside()) {
                due(same, "outside", range.thrown, with(base, range.at, outside));
            }
            for (Range other : ranges) {
                if (other != range) {
                    Object[] both = with(with(base, range.at, range.most + 1), other.at, other.least - 1);
                    due(same, "both outside", first(range.thrown, other.thrown), both);
                }
            }
        }
        return this;
    }

    private String first(String one, String other) {
        for (Class<?> listed : Calls.listed(name)) {
            String thrown = "throws." + listed.getSimpleName();
            if (thrown.equals(one) || thrown.equals(other)) {
                return thrown;
            }
        }
        return "";
    }

    /** The call is refused; with a number outside of a range, too, the first listed is thrown. */
    private ThrowsTest refuses(String thrown, Refereehall x, Object... base) {
        due(x, "refused", thrown, base);
        for (Range range : ranges(x)) {
            for (int outside : range.outside()) {
                due(x, "refused and outside", first(thrown, range.thrown), with(base, range.at, outside));
            }
        }
        return this;
    }

    /** The call is made in these states of paper 0, and refused in all others. */
    private ThrowsTest inStates(String states, String thrown, Object... base) {
        for (char state : Stage.STATES.toCharArray()) {
            if (states.indexOf(state) >= 0) {
                makes(() -> Stage.at(state), base);
            } else {
                refuses(thrown, Stage.at(state), base);
            }
        }
        return this;
    }

    // ---- the calls

    private static void peopleAndFields() {
        of("addPerson", "0..9 words").makes(() -> new Land().x, 0, 0).refuses(S, Stage.full(), 0, 0);
        of("tellConflict", "person person").makes(() -> new Land().x, 0, 1);
        of("haveConflict", "person person").makes(() -> new Land().x, 0, 1);
        of("sendAway", "person 0..99").makes(() -> new Land().x, 0, 1);
        of("addEditor", "person field").makes(() -> new Land().x, 0, 0);
        of("tie", "field field").makes(() -> new Land().x, 3, 5).refuses(A, new Land().x, 3, 3);
        of("distance", "field field").makes(() -> new Land().x, 3, 3);
        of("tellMoney", "person person 1..999").makes(() -> new Land().x, 3, 5, 1).refuses(A, new Land().x, 3, 3, 1);
        of("move", "person 0..9").makes(() -> new Land().x, 3, 5);
    }

    private static void papers() {
        of("begin", "person field words").makes(() -> new Land().x, 1, 1, 1).refuses(S, Stage.full(), 1, 1, 1);
        ThrowsTest addAuthor = of("addAuthor", "paper person").inStates("d", U, 0, 7);
        for (int barred : new int[] {0, 3, 9, 1, 2}) {
            addAuthor.refuses(U, Stage.at('d'), 0, barred);
        }
        Refereehall six = new Land().x;
        six.begin(0, 0, 1);
        for (int i = 1; i < 6; i++) {
            six.addAuthor(0, i);
        }
        addAuthor.refuses(U, six, 0, 6);
        six.begin(0, 0, 1);
        of("dropAuthor", "paper person").inStates("d", U, 0, 3).refuses(U, Stage.at('d'), 0, 7).refuses(U, six, 1, 0);
        Refereehall signedByOne = Stage.at('d');
        signedByOne.sign(0, 3);
        of("sign", "paper person").inStates("d", U, 0, 0).makes(() -> corrected(), 0, 0)
                .refuses(U, Stage.at('d'), 0, 7).refuses(U, signedByOne, 0, 3);
        of("revise", "paper words").inStates("qse", U, 0, 1).makes(() -> withVersions('e', 5), 0, 1)
                .refuses(U, withVersions('s', 6), 0, 1).refuses(U, withVersions('e', 6), 0, 1);
        of("withdraw", "paper").inStates("dkseqax", U, 0);
    }

    /** The published paper of a stage with a correction that waits. */
    private static Refereehall corrected() {
        Refereehall x = Stage.at('p');
        x.correct(0, 1);
        return x;
    }

    private static Refereehall withVersions(char state, int versions) {
        Refereehall x = Stage.at(state);
        for (int i = 2; i < versions; i++) {
            x.revise(0, 1);
            x.sign(0, 0);
            x.sign(0, 3);
        }
        return x;
    }

    private static void editorsAndReferees() {
        Refereehall nobody = Stage.at('s');
        nobody.sendAway(8, 1);
        of("assign", "paper").inStates("s", U, 0).refuses(N, nobody, 0).refuses(U, nobody, 1);
        of("editorOf", "paper").inStates("dkeqaxpwt", N, 0);
        of("invite", "paper 1..5").inStates("e", U, 0, 1);
        of("invitation", "paper person").makes(() -> Stage.at('e'), 0, 1);
        ThrowsTest answer = of("answer", "paper person -");
        Refereehall answered = Stage.at('e');
        answered.answer(0, 5, false);
        answered.goOn(15);
        Refereehall bound = Stage.at('e');
        bound.tellConflict(5, 3);
        bound.tellConflict(6, 9);
        for (boolean takes : new boolean[] {false, true}) {
            answer.inStates("dkeqaxpwt", U, 0, 5, takes);
            for (int notOpen : new int[] {0, 1, 4, 5, 6, 7}) {
                answer.refuses(U, answered, 0, notOpen, takes);
            }
        }
        answer.refuses(U, bound, 0, 5, true).refuses(U, bound, 0, 6, true);
        answer.makes(() -> Stage.at('e'), 0, 6, true);
        ThrowsTest report = of("report", "paper person 0..100 0..4 -").inStates("e", U, 0, 4, 50, 0, false);
        bound.tellConflict(4, 0);
        report.refuses(U, bound, 0, 4, 50, 0, true);
        for (int notTaken : new int[] {0, 1, 5, 6, 7}) {
            report.refuses(U, answered, 0, notTaken, 50, 0, true);
        }
        of("evened", "paper person").makes(() -> Stage.at('s'), 0, 1).refuses(N, Stage.at('e'), 0, 4)
                .refuses(N, Stage.at('e'), 1, 1);
        meet();
        of("openPoints", "paper").makes(() -> Stage.at('e'), 0);
        of("alarm", "paper person").inStates("e", U, 0, 1).refuses(U, Stage.at('e'), 0, 4);
    }

    private static void meet() {
        ThrowsTest meet = of("meet", "paper person -").inStates("ed", U, 0, 1, 0);
        meet.refuses(U, Stage.at('q'), 0, 1, 9).refuses(U, Stage.at('e'), 0, 4, 0).refuses(U, Stage.at('e'), 0, 4, 9);
        for (int point : new int[] {-1, 1, 4, 31, 32, 33, Integer.MIN_VALUE, Integer.MAX_VALUE}) {
            meet.refuses(N, Stage.at('e'), 0, 1, point).refuses(N, Stage.at('e'), 0, 2, point);
        }
        Refereehall met = Stage.at('e');
        met.meet(0, 1, 0);
        meet.refuses(N, met, 0, 1, 0);
        Refereehall sameVersion = Stage.at('e');
        sameVersion.report(0, 4, 60, 1, true);
        meet.refuses(U, sameVersion, 0, 4, 0).refuses(U, sameVersion, 0, 4, 1);
    }

    private static void decisions() {
        Refereehall bound = Stage.at('e');
        bound.tellConflict(9, 3);
        Refereehall strict = Stage.at('e');
        strict.setRules(0, 3, 50, 35, 's');
        of("decide", "paper").inStates("e", U, 0).refuses(U, bound, 0).refuses(U, strict, 0);
        of("appeal", "paper").inStates("x", U, 0).refuses(U, appealed(), 0);
        // Field 0 is that of the paper, but for the state s, to which a transfer to field 1 led.
        of("transfer", "paper 1..7").makes(() -> Stage.at('x'), 0, 2).makes(() -> appealed(), 0, 7);
        ThrowsTest transfer = of("transfer", "paper field");
        for (char state : "dseqkapwt".toCharArray()) {
            transfer.refuses(U, Stage.at(state), 0, 2).refuses(A, Stage.at(state), 0, state == 's' ? 1 : 0);
        }
        transfer.refuses(A, Stage.at('x'), 0, 0).refuses(A, Stage.at('x'), 0, -1).refuses(A, Stage.at('x'), 0, 8);
    }

    /** A paper that was rejected again. */
    private static Refereehall appealed() {
        Refereehall x = Stage.at('x');
        x.appeal(0);
        x.addEditor(8, 0);
        x.assign(0);
        x.setRules(0, 2, 100, 100, 's');
        x.invite(0, 2);
        x.answer(0, 1, true);
        x.answer(0, 2, true);
        x.report(0, 1, 60, 0, true);
        x.report(0, 2, 60, 0, true);
        x.decide(0);
        Check.due("rejected again", x.state(0), 'x');
        return x;
    }

    private static void whatIsPublic() {
        Refereehall shown = Stage.at('e');
        shown.showAhead(0);
        of("showAhead", "paper").inStates("se", U, 0).refuses(U, shown, 0);
        of("priority", "paper").inStates("pt", N, 0).makes(() -> shown, 0);
        of("embargo", "paper 0..9999").inStates(UNPUBLISHED, U, 0, 5);
        Refereehall early = Stage.at('a');
        early.embargo(0, 1);
        Refereehall wrong = Stage.at('a');
        wrong.claim(0, 1);
        of("publish", "paper").inStates("a", U, 0).refuses(U, early, 0).refuses(U, wrong, 0);
        of("cite", "paper paper").inStates(UNPUBLISHED, U, 0, 1).refuses(U, Stage.at('e'), 0, 2)
                .refuses(A, Stage.at('e'), 0, 0).refuses(A, Stage.at('p'), 0, 0).refuses(A, Stage.at('t'), 0, 0)
                .refuses(U, corrected(), 0, 1);
        of("retract", "paper").inStates("p", U, 0).makes(() -> corrected(), 0);
        of("hasConcern", "paper").makes(() -> Stage.at('d'), 0);
        of("likeness", "paper paper").makes(() -> Stage.at('d'), 0, 1);
    }

    private static void programs() {
        ThrowsTest step = of("step", "paper - -").inStates(UNPUBLISHED, U, 0, '+', 1);
        step.refuses(U, corrected(), 0, '+', 1);
        for (char state : Stage.STATES.toCharArray()) {
            for (char none : new char[] {0, ' ', '%', '.', ',', ')', '0', ':', '\u00f7', '\u012b', '\uffff'}) {
                step.refuses(A, Stage.at(state), 0, none, 1);
            }
        }
        for (char operation : "+-*/".toCharArray()) {
            step.makes(() -> withSteps('a', 9), 0, operation, 0);
            step.refuses(S, withSteps('a', 10), 0, operation, 1).refuses(U, withSteps('p', 10), 0, operation, 1)
                    .refuses(U, withSteps('t', 10), 0, operation, 1).refuses(A, withSteps('e', 10), 0, '%', 1)
                    .refuses(A, withSteps('p', 10), 0, '%', 1);
        }
        of("claim", "paper -").inStates(UNPUBLISHED, U, 0, 1).refuses(U, corrected(), 0, 0);
        of("isRight", "paper").makes(() -> Stage.at('d'), 0);
    }

    private static Refereehall withSteps(char state, int steps) {
        boolean isOut = state == 'p' || state == 't';
        Refereehall x = Stage.at(isOut ? 'a' : state);
        for (int i = 0; i < steps; i++) {
            x.step(0, '+', 0);
        }
        if (isOut) {
            x.publish(0);
        }
        if (state == 't') {
            x.retract(0);
        }
        return x;
    }

    private static void whatTiesAndWatches() {
        ThrowsTest setRules = of("setRules", "field 2..4 0..100 0..50 -").makes(() -> new Land().x, 0, 2, 50, 0, 's');
        of("setRules", "field 2..4 0..100 0..0 -").makes(() -> new Land().x, 7, 4, 0, 0, 'o');
        of("setRules", "field 2..4 100..100 0..100 -").makes(() -> new Land().x, 7, 3, 100, 100, 'd');
        for (char none : new char[] {0, ' ', 'n', 'p', 'r', 't', 'c', 'e', 'O', 'S', 'D', '\u0173', '\uffff'}) {
            setRules.refuses(A, new Land().x, 0, 2, 50, 35, none);
        }
        of("equalTo", "paper").makes(() -> equal(), 1).refuses(N, equal(), 0);
        Refereehall complained = Stage.at('p');
        complained.complain(0, 5);
        of("complain", "paper person").inStates("p", U, 0, 5).refuses(U, Stage.at('p'), 0, 3)
                .refuses(U, complained, 0, 4);
        seat(complained);
        vote();
        of("sees", "person paper person").makes(() -> Stage.at('e'), 0, 0, 0);
    }

    private static Refereehall equal() {
        Land land = new Land();
        land.signed(0);
        land.signed(1);
        land.x.showAhead(0);
        return land.x;
    }

    private static void seat(Refereehall complained) {
        ThrowsTest seat = of("seat", "paper").inStates("k", U, 0).makes(() -> complained, 0).refuses(U, complained, 0);
        Refereehall few = Stage.at('k');
        few.sendAway(5, 1);
        few.sendAway(6, 1);
        seat.refuses(N, few, 0).refuses(U, few, 1);
        Refereehall seated = Stage.at('k');
        seated.seat(0);
        for (int i = 5; i < 9; i++) {
            seated.sendAway(i, 1);
        }
        seat.refuses(U, seated, 0);
        seated.tellConflict(5, 0);
        seat.refuses(N, seated, 0);
        Refereehall withdrawn = Stage.at('k');
        withdrawn.withdraw(0);
        Refereehall retracted = Stage.at('p');
        retracted.complain(0, 5);
        retracted.retract(0);
        seat.refuses(U, withdrawn, 0).refuses(U, retracted, 0);
    }

    private static void vote() {
        ThrowsTest vote = of("vote", "paper person -").inStates("", U, 0, 5, true);
        vote.makes(() -> seated(), 0, 5, true).makes(() -> seated(), 0, 8, false).refuses(U, seated(), 0, 7, true)
                .refuses(U, seated(), 0, 9, false).refuses(U, seated(), 1, 5, true);
        Refereehall voted = seated();
        voted.vote(0, 5, true);
        voted.tellConflict(8, 3);
        vote.refuses(U, voted, 0, 5, true).refuses(U, voted, 0, 5, false).refuses(U, voted, 0, 8, true);
        voted.vote(0, 6, true);
        vote.refuses(U, voted, 0, 6, true).refuses(U, voted, 0, 8, false);
    }

    /** A stage with the committee of 5, 6 and 8. */
    private static Refereehall seated() {
        Refereehall x = Stage.at('k');
        Check.due("the committee of the stage", x.seat(0), 32 + 64 + 256);
        return x;
    }

    private static void corrections() {
        of("correct", "paper words").inStates("p", U, 0, 1).refuses(U, corrected(), 0, 1)
                .makes(() -> withCorrections(3), 0, 1).refuses(U, withCorrections(4), 0, 1);
        of("dropCitation", "paper paper").inStates(UNPUBLISHED, U, 0, 2).makes(() -> corrected(), 0, 2)
                .refuses(U, corrected(), 0, 1).refuses(U, Stage.at('e'), 0, 0).refuses(U, Stage.at('e'), 0, 1)
                .refuses(U, withCorrections(1), 0, 2);
        of("publicVersion", "paper").inStates("pt", N, 0);
    }

    /** Public corrections behind the two versions of the stage. */
    private static Refereehall withCorrections(int many) {
        Refereehall x = Stage.at('p');
        for (int i = 0; i < many; i++) {
            x.correct(0, 1);
            x.sign(0, 0);
            x.sign(0, 3);
        }
        return x;
    }

    private static void indexes() {
        of("index", "person").makes(() -> Stage.at('p'), 0);
        ThrowsTest fieldIndex = of("fieldIndex", "field 1..9999").refuses(M, new Land().x, 0, 1)
                .refuses(M, Stage.at('a'), 0, 9999).refuses(M, Stage.at('t'), 0, 9999)
                .refuses(M, Stage.at('p'), 1, 9999);
        fieldIndex.makes(() -> Stage.at('p'), 0, 1);
        of("circle", "person").makes(() -> Stage.at('p'), 0);
    }

    private static void records() {
        of("state", "paper").makes(() -> Stage.at('e'), 0);
        of("letters", "paper").makes(() -> Stage.at('e'), 0);
        Refereehall x = Stage.at('e');
        int letters = x.letters(0);
        for (int index : new int[] {-1, letters, letters + 1, Integer.MIN_VALUE, Integer.MAX_VALUE}) {
            of("letter", "paper -").refuses(B, x, 0, index);
        }
        of("letter", "paper -").makes(() -> x, 0, 0);
        Check.due("the last letter", x.letter(0, letters - 1), 'S');
        of("goOn", "1..99").makes(() -> new Land().x, 5);
        Refereehall none = new Land().x;
        Check.arithmetic("the share of none", () -> none.acceptedShare());
        Check.arithmetic("the mean of none", () -> none.meanScore());
        Check.due("a share", Stage.at('d').acceptedShare(), 0f);
        Check.due("a mean", Stage.at('d').meanScore(), 60.0);
        for (String name : new String[] {"rings", "checksum", "isSound"}) {
            Check.due(name + " names no exception", Calls.listed(name).size(), 0);
        }
    }

    // ---- lands without anything, and with all that there can be

    /** In a land without people and papers there is no person 0 and no paper 0. */
    private static void emptyLand() {
        Refereehall x = new Refereehall();
        String people = "tellConflict haveConflict sendAway addEditor begin tellMoney move sees index circle";
        String papers = "addAuthor dropAuthor sign revise withdraw assign editorOf invite invitation answer report"
                + " evened meet openPoints decide appeal transfer showAhead priority embargo publish cite retract"
                + " hasConcern step claim isRight likeness alarm equalTo complain seat vote correct dropCitation"
                + " publicVersion state letters letter";
        for (String name : (people + " " + papers).split(" ")) {
            Class<?>[] types = Calls.types(name);
            Object[] arguments = new Object[types.length];
            for (int i = 0; i < types.length; i++) {
                arguments[i] = types[i] == int.class ? 0 : types[i] == char.class ? (Object) '+' : (Object) true;
            }
            of(name, "").due(x, "in an empty land", B, arguments);
        }
    }

    private static void fullLand() {
        of("haveConflict", "person person").makes(Stage::full, 19, 19);
        of("likeness", "paper paper").makes(Stage::full, 11, 11);
        of("addAuthor", "paper person").makes(Stage::full, 11, 19);
        of("sign", "paper person").makes(Stage::full, 11, 0);
        of("cite", "paper paper").makes(Stage::full, 11, 0);
        of("move", "person 0..9").makes(Stage::full, 19, 9);
        of("sees", "person paper person").makes(Stage::full, 19, 11, 19);
        of("invitation", "paper person").makes(Stage::full, 11, 19);
    }
}
