/** The sentences of the terms on corrections, indexes, what is public, programs and letters that name a boundary. */
public final class TermsPublicTest {
    public static void main(String[] args) {
        publicAsSoonAsItIsSigned();
        concernIsTakenAway();
        citationsUntilThen();
        waitingDoesNotChangeTheState();
        greatestH();
        authorsInCommonNotCounted();
        fieldIndexInASpan();
        fieldIndexConverted();
        circleOfTwoOrMore();
        stepOfTwoCited();
        papersOfBothNotCounted();
        shownOnce();
        priorityOfAPaper();
        notAheadOfTheEmbargo();
        citesOthers();
        concernsGoOn();
        concernOfThePublishedAlone();
        atMostTenSteps();
        roundAndCut();
        dividedByZero();
        eachLetter();
        noLetter();
        lettersAreManyEnough();
        likenessOfTheLast();
        ringsOfSeventy();
        daysGoBy();
        sumOverAllPapers();
        shareOfThoseAccepted();
        meanOfAllReports();
        Check.end();
    }

    private static final String REFUSED = "throws.UnsupportedOperationException";

    /** An accepted paper, whose authors may be any of 0 to 6. */
    private static int ready(Land land, int... authors) {
        Refereehall x = land.x;
        int paper = x.begin(authors[0], 0, 1);
        for (int i = 1; i < authors.length; i++) {
            x.addAuthor(paper, authors[i]);
        }
        for (int author : authors) {
            x.sign(paper, author);
        }
        x.assign(paper);
        land.take(paper, 7, 8);
        land.score(paper, 60, 7, 8);
        Check.due("accepted", x.decide(paper), 'a');
        return paper;
    }

    private static void publishAll(Refereehall x, int papers) {
        for (int i = 0; i < papers; i++) {
            x.publish(i);
        }
    }

    private static void cites(Refereehall x, int paper, int... others) {
        for (int other : others) {
            x.cite(paper, other);
        }
    }

    // ---- corrections

    /** "is public as soon as it is signed; until then, the elder one is" */
    private static void publicAsSoonAsItIsSigned() {
        Refereehall x = Stage.at('p');
        Check.due("the version that was published", x.publicVersion(0), 1);
        for (int version = 2; version < 6; version++) {
            Check.due("a correction", x.correct(0, version), version);
            Check.due("until then", x.publicVersion(0), version - 1);
            Check.due("one of two", x.sign(0, 3), false);
            Check.due("half signed", x.publicVersion(0), version - 1);
            Check.due("the other one", x.sign(0, 0), true);
            Check.due("as soon as it is signed", x.publicVersion(0), version);
        }
        Check.unsupported("a 7th version", () -> x.correct(0, 1));
        Refereehall y = Stage.at('p');
        y.correct(0, 1);
        y.sign(0, 0);
        y.retract(0);
        Check.due("retracted ahead of it", y.publicVersion(0), 1);
        Check.unsupported("it cannot be signed any more", () -> y.sign(0, 3));
    }

    /** "its concern is taken away, if it cites no retracted paper any more, and none with a concern" */
    private static void concernIsTakenAway() {
        Land land = new Land(9);
        Refereehall x = land.x;
        for (int i = 0; i < 4; i++) {
            ready(land, i);
        }
        cites(x, 1, 0);
        cites(x, 2, 1, 3);
        publishAll(x, 4);
        Check.due("two get one", x.retract(0), 2);
        correctOnce(x, 1, 1);
        Check.due("it cites a retracted one", x.hasConcern(1), true);
        correctOnce(x, 2, 2);
        Check.due("it cites one with a concern", x.hasConcern(2), true);
        x.correct(1, 1);
        x.dropCitation(1, 0);
        Check.due("until it is signed", x.hasConcern(1), true);
        x.sign(1, 1);
        Check.due("taken away", x.hasConcern(1), false);
        Check.due("that of another one stays until its own", x.hasConcern(2), true);
        correctOnce(x, 2, 2);
        Check.due("it cites none with a concern", x.hasConcern(2), false);
        correctOnce(x, 3, 3);
        Check.due("which had none", x.hasConcern(3), false);
    }

    private static void correctOnce(Refereehall x, int paper, int author) {
        x.correct(paper, 1);
        Check.due("signed", x.sign(paper, author), true);
    }

    /** "citations can be taken out until then" */
    private static void citationsUntilThen() {
        Refereehall x = Stage.at('a');
        x.cite(0, 1);
        x.publish(0);
        Check.unsupported("published", () -> x.dropCitation(0, 2));
        x.correct(0, 1);
        Check.due("as a correction waits", x.dropCitation(0, 2), 1);
        Check.unsupported("it is out", () -> x.dropCitation(0, 2));
        Check.unsupported("nothing is put in", () -> x.cite(0, 2));
        x.sign(0, 0);
        x.sign(0, 3);
        Check.unsupported("behind it", () -> x.dropCitation(0, 1));
    }

    /** "A correction that waits does not change the state." */
    private static void waitingDoesNotChangeTheState() {
        Refereehall x = Stage.at('p');
        x.correct(0, 1);
        Check.due("the state", x.state(0), 'p');
        Check.due("sound", x.isSound(), true);
        Check.unsupported("no author is added", () -> x.addAuthor(0, 7));
        Check.unsupported("nor dropped", () -> x.dropAuthor(0, 3));
        Check.due("complained of", x.complain(0, 4), 1);
        Check.due("retracted", x.retract(0), 0);
        Check.due("the state behind", x.state(0), 't');
    }

    // ---- indexes

    /** "the greatest h such that h published papers ... are each cited by h published papers or more" */
    private static void greatestH() {
        Land land = new Land(9);
        Refereehall x = land.x;
        for (int i = 0; i < 3; i++) {
            ready(land, 0);
        }
        for (int i = 3; i < 7; i++) {
            ready(land, i - 2);
        }
        ready(land, 5);
        cites(x, 3, 0, 1, 2);
        cites(x, 4, 0, 1);
        cites(x, 5, 0, 1);
        cites(x, 6, 2);
        cites(x, 7, 2);
        publishAll(x, 3);
        Check.due("cited by none that is published", x.index(0), 0);
        int[] greatest = {1, 2, 2, 2, 3};
        for (int i = 3; i < 8; i++) {
            x.publish(i);
            Check.due("behind paper " + i, x.index(0), greatest[i - 3]);
        }
        x.retract(7);
        Check.due("3, 3 and 2", x.index(0), 2);
    }

    /** "those with an author of the cited one in common, in the public versions, not counted" */
    private static void authorsInCommonNotCounted() {
        Land land = new Land(9);
        Refereehall x = land.x;
        ready(land, 0, 1);
        ready(land, 1, 2);
        ready(land, 2, 3);
        cites(x, 1, 0);
        cites(x, 2, 0);
        x.publish(0);
        x.publish(1);
        Check.due("one with an author in common", x.index(0), 0);
        x.publish(2);
        Check.due("one without", x.index(0), 1);
        Check.due("of the other author", x.index(1), 1);
        Check.due("no author of it", x.index(2), 0);
    }

    /** "a paper was published in the last so many days if this was less than so many days ago" */
    private static void fieldIndexInASpan() {
        Land land = new Land(9);
        Refereehall x = land.x;
        ready(land, 0);
        ready(land, 1);
        cites(x, 1, 0);
        publishAll(x, 2);
        Check.due("this day, in a span of one", x.fieldIndex(0, 1), 0.5f);
        for (int ago = 1; ago < 5; ago++) {
            x.goOn(1);
            Check.due(ago + " days ago, in a span of as many", x.fieldIndex(0, ago), 0f);
            Check.due(ago + " days ago, in a span of one more", x.fieldIndex(0, ago + 1), 0.5f);
            Check.due(ago + " days ago, in the longest span", x.fieldIndex(0, 9999), 0.5f);
        }
    }

    /** "divided by the number of these, both converted to float" */
    private static void fieldIndexConverted() {
        Land land = new Land(9);
        Refereehall x = land.x;
        for (int i = 0; i < 3; i++) {
            ready(land, i);
        }
        cites(x, 0, 1, 2);
        cites(x, 1, 2);
        cites(x, 2, 0);
        publishAll(x, 3);
        Check.due("4 of 3", x.fieldIndex(0, 1), 4f / 3f);
        x.retract(1);
        Check.due("2 of 2", x.fieldIndex(0, 1), 1f);
        x.retract(2);
        Check.due("0 of 1", x.fieldIndex(0, 1), 0f);
        x.retract(0);
        Check.arithmetic("0 of 0", () -> x.fieldIndex(0, 1));
    }

    /** "A circle is a greatest set of two or more people such that each one is reached from each other one" */
    private static void circleOfTwoOrMore() {
        Land land = new Land(9);
        Refereehall x = land.x;
        for (int i = 0; i < 8; i++) {
            ready(land, i % 4);
        }
        cites(x, 0, 1, 5);
        cites(x, 1, 2, 6);
        cites(x, 2, 0, 4);
        cites(x, 3, 0, 4);
        publishAll(x, 7);
        Check.due("three", x.circle(0), 3);
        Check.due("three, too", x.circle(2), 3);
        Check.due("one who is not reached", x.circle(3), 0);
        Check.due("one without papers", x.circle(9), 0);
        x.retract(2);
        Check.due("none without the last step", x.circle(0), 0);
    }

    /** "that cite at least 2 published papers of which the other one is an author" */
    private static void stepOfTwoCited() {
        for (int cited = 1; cited <= 2; cited++) {
            Land land = new Land(9);
            Refereehall x = land.x;
            for (int i = 0; i < 6; i++) {
                ready(land, i % 2);
            }
            cites(x, 0, 1, 3);
            cites(x, 1, 0);
            cites(x, 3, 0);
            if (cited == 2) {
                cites(x, 3, 2);
            } else {
                cites(x, 3, 4);
            }
            publishAll(x, 4);
            Check.due("so many published ones of 0: " + cited, x.circle(0), cited == 2 ? 2 : 0);
            x.publish(4);
            x.publish(5);
            Check.due("all published", x.circle(0), 2);
        }
    }

    /** "not counting papers that both are authors of" */
    private static void papersOfBothNotCounted() {
        Land land = new Land(9);
        Refereehall x = land.x;
        ready(land, 0);
        ready(land, 0);
        ready(land, 1);
        ready(land, 1);
        ready(land, 0, 1);
        cites(x, 2, 0, 1);
        cites(x, 0, 2, 4);
        cites(x, 4, 3);
        publishAll(x, 5);
        Check.due("one cited by one of both, one of both cited", x.circle(0), 0);
        Check.due("the other way", x.circle(1), 0);
    }

    // ---- what is public

    /** "A paper can be shown ahead, once, in the states s, e" */
    private static void shownOnce() {
        for (char state : Stage.STATES.toCharArray()) {
            Refereehall x = Stage.at(state);
            Object due = state == 's' || state == 'e' ? (Object) 0 : REFUSED;
            Check.due("in state " + state, Calls.make(x, "showAhead", 0), due);
            Check.due("twice, in state " + state, Calls.make(x, "showAhead", 0), REFUSED);
        }
    }

    /** "its priority is the day of that, otherwise that on which it was published" */
    private static void priorityOfAPaper() {
        Refereehall x = Stage.at('e');
        x.goOn(3);
        Check.due("shown", x.showAhead(0), 3);
        x.goOn(3);
        x.meet(0, 1, 0);
        x.decide(0);
        x.publish(0);
        Check.due("the day it was shown", x.priority(0), 3);
        Refereehall y = Stage.at('a');
        y.goOn(5);
        y.publish(0);
        y.goOn(5);
        Check.due("the day it was published", y.priority(0), 5);
        y.retract(0);
        Check.due("retracted", y.priority(0), 5);
    }

    /** "not ahead of the day of an embargo" */
    private static void notAheadOfTheEmbargo() {
        for (int day = 8; day < 13; day++) {
            Refereehall x = Stage.at('a');
            x.embargo(0, day);
            x.goOn(10);
            Object due = day <= 10 ? (Object) 1 : REFUSED;
            Check.due("on the day 10, with an embargo to " + day, Calls.make(x, "publish", 0), due);
        }
        Refereehall x = Stage.at('e');
        x.embargo(0, 9999);
        Check.due("shown ahead all the same", x.showAhead(0), 0);
    }

    /** "A paper cites others, with lower or higher numbers, not itself." */
    private static void citesOthers() {
        Refereehall x = Stage.full();
        for (int i = 0; i < 12; i++) {
            if (i != 5) {
                Check.due("so many", x.cite(5, i), i < 5 ? i + 1 : i);
            }
        }
        Check.badArgument("itself", () -> x.cite(5, 5));
        Check.due("each other", x.cite(11, 5), 1);
        Check.due("a withdrawn one", x.withdraw(0), 'd');
        Check.due("can be cited", x.cite(11, 0), 2);
    }

    /** "each published one that cites it, or one with a concern, gets a concern, if it has none, again and again" */
    private static void concernsGoOn() {
        Land land = new Land(9);
        Refereehall x = land.x;
        for (int i = 0; i < 8; i++) {
            ready(land, i % 7);
        }
        cites(x, 6, 7);
        cites(x, 0, 6);
        cites(x, 3, 0);
        cites(x, 1, 3);
        cites(x, 7, 1);
        cites(x, 2, 4);
        publishAll(x, 8);
        Check.due("0, 3, 1 and 7", x.retract(6), 4);
        for (int i = 0; i < 8; i++) {
            Check.due("concern of " + i, x.hasConcern(i), i == 0 || i == 1 || i == 3 || i == 7);
        }
        Check.due("one that has one gets none", x.retract(0), 0);
        Check.due("another", x.retract(4), 1);
    }

    /** "each published one" */
    private static void concernOfThePublishedAlone() {
        for (char state : "dseqkaxw".toCharArray()) {
            Refereehall x = citingAnother(state);
            Check.due("in state " + state, x.retract(3), 0);
            Check.due("no concern", x.hasConcern(0), false);
        }
        Refereehall x = citingAnother('a');
        x.publish(0);
        Check.due("as it is published", x.retract(3), 1);
        Check.due("a concern", x.hasConcern(0), true);
    }

    /** The stage with a paper 3 that is published, and that paper 0 cites. */
    private static Refereehall citingAnother(char state) {
        Refereehall x = Stage.at(state);
        x.begin(4, 0, 1);
        x.sign(3, 4);
        x.cite(0, 3);
        x.addEditor(6, 0);
        x.sendAway(8, 1);
        x.setRules(0, 2, 0, 0, 's');
        x.assign(3);
        x.invite(3, 5);
        x.invite(3, 5);
        x.answer(3, 1, true);
        x.answer(3, 2, true);
        x.report(3, 1, 60, 0, true);
        x.report(3, 2, 60, 0, true);
        x.decide(3);
        Check.due("published", x.publish(3), 0);
        return x;
    }

    // ---- programs

    /** "A paper has a program of at most 10 steps" */
    private static void atMostTenSteps() {
        Refereehall x = Stage.at('e');
        Check.due("without steps", x.isRight(0), true);
        for (int i = 1; i <= 10; i++) {
            Check.due("so many", x.step(0, '+', i), i);
        }
        Check.badState("an 11th", () -> x.step(0, '+', 11));
        Check.due("the claim, 0 at first", x.claim(0, 55), 0);
        Check.due("all ten", x.isRight(0), true);
        Check.due("those of another paper", x.step(1, '-', 1), 1);
    }

    /** "as whole numbers of 32 bits that go round, cut by division" */
    private static void roundAndCut() {
        int most = Integer.MAX_VALUE;
        int least = Integer.MIN_VALUE;
        ends(least, "++", most, 1);
        ends(most, "--", most, 2);
        ends(most, "+-", least, 1);
        ends(least, "-", least);
        ends(-2, "+*", most, 2);
        ends(least, "+*", least, -1);
        ends(least, "+/", least, -1);
        ends(0, "+*", 65536, 65536);
        ends(3, "+/", 7, 2);
        ends(-3, "+/", -7, 2);
        ends(-3, "-/", 7, 2);
        ends(3, "-/", 7, -2);
        ends(0, "+/", 1, least);
        ends(0, "/", 5);
        ends(14, "+*-/", 7, 5, 6, 2);
    }

    private static void ends(int result, String operations, int... numbers) {
        Refereehall x = Stage.at('d');
        for (int i = 0; i < numbers.length; i++) {
            x.step(0, operations.charAt(i), numbers[i]);
        }
        x.claim(0, result);
        Check.due(operations + " ends with " + result, x.isRight(0), true);
        for (int wrong : new int[] {result + 1, result - 1, -result - 3}) {
            x.claim(0, wrong);
            Check.due(operations + " does not end with " + wrong, x.isRight(0), false);
        }
    }

    /** "not if something is divided by 0" */
    private static void dividedByZero() {
        Refereehall x = Stage.at('a');
        x.step(0, '/', 0);
        Check.due("0 by 0", x.isRight(0), false);
        x.step(0, '*', 0);
        Check.due("whatever is behind it", x.isRight(0), false);
        Check.unsupported("not published", () -> x.publish(0));
        Refereehall y = Stage.at('a');
        y.step(0, '*', 0);
        y.step(0, '+', 0);
        y.step(0, '-', 0);
        Check.due("other steps with 0", y.isRight(0), true);
    }

    // ---- letters

    private static String letters(Refereehall x, int paper) {
        StringBuilder text = new StringBuilder();
        for (int i = 0; i < x.letters(paper); i++) {
            text.append(x.letter(paper, i));
        }
        return text.toString();
    }

    /** "Each change of a paper is noted by a letter" */
    private static void eachLetter() {
        String judged = "b+yySEiiiiikkkrrvyyS";
        Check.due("d", letters(Stage.at('d'), 0), judged + "v");
        Check.due("e", letters(Stage.at('e'), 0), judged);
        Check.due("q", letters(Stage.at('q'), 0), judged + "Q");
        Check.due("k", letters(Stage.at('k'), 0), judged + "K");
        Check.due("x", letters(Stage.at('x'), 0), judged + "X");
        Check.due("s", letters(Stage.at('s'), 0), judged + "XT");
        Check.due("a", letters(Stage.at('a'), 0), judged + "mA");
        Check.due("p", letters(Stage.at('p'), 0), judged + "mAP");
        Check.due("t", letters(Stage.at('t'), 0), judged + "mAPR");
        Check.due("w", letters(Stage.at('w'), 0), judged + "W");
        Refereehall x = Stage.at('x');
        x.appeal(0);
        x.showAhead(0);
        x.revise(0, 1);
        x.dropAuthor(0, 3);
        Check.due("appealed, shown, one less", letters(x, 0), judged + "Xlhv-");
        Refereehall y = Stage.at('e');
        y.answer(0, 5, false);
        y.goOn(15);
        Check.due("refused and lapsed", letters(y, 0), judged + "nz");
        Refereehall z = Stage.at('p');
        z.correct(0, 1);
        z.sign(0, 0);
        z.sign(0, 3);
        z.complain(0, 4);
        z.seat(0);
        z.vote(0, 5, false);
        z.vote(0, 6, true);
        z.vote(0, 8, false);
        Check.due("a correction, and a complaint denied", letters(z, 0), judged + "mAPNyyUjucccD");
        Check.due("nothing of another paper", letters(z, 1), "b");
    }

    /** What is no change of a paper's letters: claims, steps, citations, embargoes, alarms, and what is asked. */
    private static void noLetter() {
        Refereehall x = Stage.at('e');
        String before = letters(x, 0);
        x.claim(0, 3);
        x.step(0, '+', 3);
        x.cite(0, 1);
        x.dropCitation(0, 2);
        x.embargo(0, 7);
        x.alarm(0, 1);
        x.sendAway(1, 3);
        x.move(2, 9);
        x.setRules(0, 3, 50, 35, 'o');
        x.invitation(0, 1);
        x.sees(0, 0, 1);
        Check.due("no letter", letters(x, 0), before);
    }

    /** As many letters as the calls of one object can write one by one. */
    private static void lettersAreManyEnough() {
        Land land = new Land();
        Refereehall x = land.x;
        x.begin(0, 0, 1);
        for (int i = 0; i < 245; i++) {
            x.addAuthor(0, 1);
            x.dropAuthor(0, 1);
        }
        Check.due("so many", x.letters(0), 491);
        Check.due("the last", x.letter(0, 490), '-');
        Check.due("the last but one", x.letter(0, 489), '+');
        Check.outOfBounds("behind it", () -> x.letter(0, 491));
        Check.due("sound", x.isSound(), true);
    }

    // ---- what is returned

    /** "words in both, times 100, divided by words in either, cut", "0 without any words" */
    private static void likenessOfTheLast() {
        int[][] rows = {{0, 0, 0}, {1, 1, 100}, {1, 2, 0}, {3, 1, 50}, {7, 1, 33}, {7, 3, 66}, {1048575, 1, 5},
            {1048575, 0, 0}, {1048575, 524287, 95}, {1048575, 1048575, 100}};
        for (int[] row : rows) {
            Land land = new Land();
            Refereehall x = land.x;
            x.begin(0, 0, row[0]);
            x.begin(1, 0, row[1]);
            Check.due("of two", x.likeness(0, 1), row[2]);
            Check.due("of two, the other way", x.likeness(1, 0), row[2]);
            Check.due("of one with itself", x.likeness(0, 0), row[0] == 0 ? 0 : 100);
        }
    }

    /** "pairs of people have each given a score of 70 or more to a paper of which the other one is or was an author" */
    private static void ringsOfSeventy() {
        for (int score = 68; score < 73; score++) {
            Land land = new Land(9);
            Refereehall x = land.x;
            land.taken(0, 1);
            land.withOneGone(2, 1);
            x.assign(1);
            land.take(1, 0);
            land.score(0, 70, 1);
            land.score(1, score, 0);
            Check.due("with 70 and " + score, x.rings(), score >= 70 ? 1 : 0);
        }
    }

    /** "the days, 1 to 99" */
    private static void daysGoBy() {
        Land land = new Land(9);
        Refereehall x = land.x;
        Check.due("one day", x.goOn(1), 0);
        Check.due("99 days", x.goOn(99), 0);
        land.signed(0);
        Check.due("the day", x.showAhead(0), 100);
        for (int i = 0; i < 400; i++) {
            x.goOn(99);
        }
        land.signed(0);
        Check.due("a late day", x.showAhead(1), 100 + 400 * 99);
        Check.due("the last day of one who is away", x.sendAway(0, 99), 100 + 400 * 99 + 98);
    }

    /** "0 at first, then for each letter of each paper 31 times itself plus the number of the letter" */
    private static void sumOverAllPapers() {
        for (char state : Stage.STATES.toCharArray()) {
            Refereehall x = Stage.at(state);
            long sum = 0;
            for (int paper = 0; paper < 3; paper++) {
                for (char letter : letters(x, paper).toCharArray()) {
                    sum = 31 * sum + letter;
                }
            }
            Check.due("the sum", x.checksum(), sum);
        }
        Check.due("0 at first", new Refereehall().checksum(), 0L);
    }

    /** "the share of papers that were accepted, published ones included, and retracted ones" */
    private static void shareOfThoseAccepted() {
        for (char state : Stage.STATES.toCharArray()) {
            float due = state == 'a' || state == 'p' || state == 't' ? 1f / 3f : 0f;
            Check.due("one of three in state " + state, Stage.at(state).acceptedShare(), due);
        }
    }

    /** "the sum divided by the number of reports, both converted to double" */
    private static void meanOfAllReports() {
        Land land = new Land(9);
        Refereehall x = land.x;
        land.taken(0, 1, 2, 3);
        x.report(0, 1, 1, 0, true);
        Check.due("one", x.meanScore(), 1.0);
        x.report(0, 2, 0, 0, true);
        Check.due("a half", x.meanScore(), 0.5);
        x.report(0, 3, 0, 0, true);
        Check.due("a third", x.meanScore(), 1.0 / 3.0);
    }
}
