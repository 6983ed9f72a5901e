/** Promises 27 to 37 and 47 to 49: what is public, concerns, programs, likeness and corrections. */
public final class PublicTest {
    public static void main(String[] args) {
        showAhead();
        priority();
        embargo();
        publish();
        cite();
        retract();
        concerns();
        concernsOfOthers();
        concernOfTheFirst();
        steps();
        claim();
        results();
        likeness();
        correct();
        correctionEnds();
        correctionTakesConcern();
        dropCitation();
        Check.end();
    }

    private static void showAhead() {
        Land land = new Land(9);
        Refereehall x = land.x;
        Check.outOfBounds("no paper", () -> x.showAhead(0));
        x.begin(0, 0, 1);
        Check.unsupported("in state d", () -> x.showAhead(0));
        x.sign(0, 0);
        x.goOn(4);
        Check.due("in state s", x.showAhead(0), 4);
        Check.due("letters", land.file(0), "bySh");
        Check.unsupported("again", () -> x.showAhead(0));
        x.assign(0);
        Check.unsupported("again in state e", () -> x.showAhead(0));
        land.assigned(0);
        Check.due("in state e", x.showAhead(1), 4);
        x.withdraw(1);
        Check.unsupported("in state w", () -> x.showAhead(1));
    }

    private static void priority() {
        Land land = new Land(9);
        Refereehall x = land.x;
        Check.outOfBounds("no paper", () -> x.priority(0));
        land.accepted(0, 1, 2);
        Check.noElement("neither shown nor published", () -> x.priority(0));
        x.goOn(5);
        x.publish(0);
        x.goOn(5);
        Check.due("the day it was published", x.priority(0), 5);
        x.retract(0);
        Check.due("still", x.priority(0), 5);
        int paper = land.taken(0, 1, 2);
        x.showAhead(paper);
        x.goOn(3);
        land.score(paper, 60, 1, 2);
        x.decide(paper);
        x.publish(paper);
        Check.due("the day it was shown", x.priority(paper), 10);
    }

    private static void embargo() {
        Land land = new Land(9);
        Refereehall x = land.x;
        Check.outOfBounds("no paper", () -> x.embargo(0, -1));
        land.accepted(0, 1, 2);
        Check.badArgument("day -1", () -> x.embargo(0, -1));
        Check.badArgument("day 10000", () -> x.embargo(0, 10000));
        Check.due("at first", x.embargo(0, 9999), 0);
        Check.due("from the first day on", x.embargo(0, 0), 9999);
        Check.due("before", x.embargo(0, 3), 0);
        x.goOn(2);
        Check.unsupported("too early", () -> x.publish(0));
        x.goOn(1);
        Check.due("on the day", x.publish(0), 0);
        Check.unsupported("published", () -> x.embargo(0, 3));
        Check.badArgument("published, on a bad day", () -> x.embargo(0, -1));
        x.retract(0);
        Check.unsupported("retracted", () -> x.embargo(0, 3));
        land.signed(0);
        x.withdraw(1);
        Check.due("withdrawn", x.embargo(1, 3), 0);
    }

    private static void publish() {
        Land land = new Land(9);
        Refereehall x = land.x;
        Check.outOfBounds("no paper", () -> x.publish(0));
        Check.outOfBounds("no public version of none", () -> x.publicVersion(0));
        land.taken(0, 1, 2);
        Check.unsupported("in state e", () -> x.publish(0));
        land.score(0, 60, 1, 2);
        x.revise(0, 1);
        x.sign(0, 0);
        x.decide(0);
        x.claim(0, 1);
        Check.unsupported("a program that is not right", () -> x.publish(0));
        x.claim(0, 0);
        Check.noElement("not public", () -> x.publicVersion(0));
        Check.due("its last version", x.publish(0), 1);
        Check.due("state", x.state(0), 'p');
        Check.due("letter", x.letter(0, x.letters(0) - 1), 'P');
        Check.due("public", x.publicVersion(0), 1);
        Check.unsupported("again", () -> x.publish(0));
        x.retract(0);
        Check.due("of a retracted one", x.publicVersion(0), 1);
    }

    private static void cite() {
        Land land = new Land(9);
        Refereehall x = land.x;
        Check.outOfBounds("no paper", () -> x.cite(0, 0));
        land.accepted(0, 1, 2);
        Check.outOfBounds("no other one", () -> x.cite(0, 1));
        Check.outOfBounds("no other one -1", () -> x.cite(0, -1));
        Check.badArgument("itself", () -> x.cite(0, 0));
        land.signed(0);
        land.signed(0);
        Check.due("a higher one", x.cite(0, 1), 1);
        Check.due("a lower one", x.cite(1, 0), 1);
        Check.due("one more", x.cite(0, 2), 2);
        Check.unsupported("cited already", () -> x.cite(0, 2));
        x.publish(0);
        land.signed(0);
        Check.unsupported("published", () -> x.cite(0, 3));
        Check.badArgument("published, itself", () -> x.cite(0, 0));
        x.correct(0, 1);
        Check.unsupported("published, with a correction", () -> x.cite(0, 3));
        x.withdraw(1);
        Check.due("withdrawn", x.cite(1, 3), 2);
        x.retract(0);
        Check.unsupported("retracted", () -> x.cite(0, 3));
    }

    private static void retract() {
        Land land = new Land(9);
        Refereehall x = land.x;
        Check.outOfBounds("no paper", () -> x.retract(0));
        Check.outOfBounds("no concern of none", () -> x.hasConcern(0));
        land.accepted(0, 1, 2);
        Check.unsupported("in state a", () -> x.retract(0));
        x.publish(0);
        Check.due("nobody cites it", x.retract(0), 0);
        Check.due("state", x.state(0), 't');
        Check.due("letter", x.letter(0, x.letters(0) - 1), 'R');
        Check.due("no concern", x.hasConcern(0), false);
        Check.unsupported("again", () -> x.retract(0));
    }

    /** 0 is cited by 1, which is cited by 2, which is cited by 3 and 4; 4 is not published. */
    private static void concerns() {
        Land land = new Land(9);
        Refereehall x = land.x;
        for (int i = 0; i < 6; i++) {
            land.accepted(0, 1, 2);
        }
        x.cite(1, 0);
        x.cite(2, 1);
        x.cite(3, 2);
        x.cite(4, 2);
        x.cite(0, 5);
        for (int i = 0; i < 6; i++) {
            if (i != 4) {
                x.publish(i);
            }
        }
        Check.due("three get a concern", x.retract(0), 3);
        for (int i = 0; i < 6; i++) {
            Check.due("concern of " + i, x.hasConcern(i), i >= 1 && i <= 3);
        }
        Check.due("letter", x.letter(3, x.letters(3) - 1), 'C');
        x.publish(4);
        Check.due("published later", x.hasConcern(4), false);
        Check.due("one that cites one with a concern", x.retract(5), 1);
        Check.due("it has one now", x.hasConcern(4), true);
        Check.due("all have one", x.retract(1), 0);
        Check.due("a concern stays as it is retracted", x.hasConcern(1), true);
    }

    /** From high to low numbers and in a round. */
    private static void concernsOfOthers() {
        Land land = new Land(9);
        Refereehall x = land.x;
        for (int i = 0; i < 6; i++) {
            land.accepted(0, 1, 2);
        }
        for (int i = 0; i < 5; i++) {
            x.cite(i, i + 1);
        }
        x.cite(5, 0);
        for (int i = 0; i < 6; i++) {
            x.publish(i);
        }
        Check.due("all others", x.retract(5), 5);
        Check.due("not the retracted one", x.hasConcern(5), false);
        Check.due("once each", x.letter(0, x.letters(0) - 2), 'P');
    }

    /** 0 cites 1 and is cited by 2; 3 cites 0, too, and is published later. */
    private static void concernOfTheFirst() {
        Land land = new Land(9);
        Refereehall x = land.x;
        for (int i = 0; i < 5; i++) {
            land.accepted(0, 1, 2);
        }
        x.cite(0, 1);
        x.cite(2, 0);
        x.cite(3, 0);
        for (int i = 0; i < 5; i++) {
            if (i != 3) {
                x.publish(i);
            }
        }
        Check.due("nobody cites it, and 0 has no concern", x.retract(4), 0);
        Check.due("0 and the one that cites it", x.retract(1), 2);
        x.publish(3);
        Check.due("no concern yet", x.hasConcern(3), false);
        Check.due("0 has one", x.hasConcern(0), true);
        Check.due("one that cites 0", x.retract(2), 1);
        Check.due("a concern", x.hasConcern(3), true);
    }

    private static void steps() {
        Land land = new Land(9);
        Refereehall x = land.x;
        Check.outOfBounds("no paper", () -> x.step(0, 'x', 1));
        Check.outOfBounds("no claim of none", () -> x.claim(0, 1));
        Check.outOfBounds("not right of none", () -> x.isRight(0));
        land.accepted(0, 1, 2);
        Check.badArgument("no such operation", () -> x.step(0, '%', 1));
        for (int i = 1; i <= 10; i++) {
            Check.due("steps", x.step(0, "+-*/".charAt(i % 4), i), i);
        }
        Check.badState("an 11th", () -> x.step(0, '+', 1));
        Check.badArgument("an 11th without an operation", () -> x.step(0, ' ', 1));
        x.claim(0, 6);
        Check.due("right", x.isRight(0), false);
        land.accepted(0, 1, 2);
        x.publish(1);
        Check.unsupported("published", () -> x.step(1, '+', 1));
        Check.badArgument("published, no such operation", () -> x.step(1, (char) 0, 1));
        x.retract(1);
        Check.unsupported("retracted", () -> x.step(1, '+', 1));
        x.withdraw(0);
        Check.badState("withdrawn, an 11th", () -> x.step(0, '+', 1));
        land.accepted(0, 1, 2);
        for (int i = 0; i < 10; i++) {
            x.step(2, '+', 0);
        }
        x.publish(2);
        Check.unsupported("published ahead of an 11th", () -> x.step(2, '+', 1));
        Check.due("no letters", land.file(2).indexOf("AP") > 0, true);
    }

    private static void claim() {
        Land land = new Land(9);
        Refereehall x = land.x;
        land.accepted(0, 1, 2);
        Check.due("at first", x.claim(0, Integer.MIN_VALUE), 0);
        Check.due("before", x.claim(0, 0), Integer.MIN_VALUE);
        x.publish(0);
        Check.unsupported("published", () -> x.claim(0, 1));
        Check.due("still right", x.isRight(0), true);
        x.retract(0);
        Check.unsupported("retracted", () -> x.claim(0, 1));
    }

    private static void results() {
        Land land = new Land(9);
        Refereehall x = land.x;
        x.begin(0, 0, 1);
        Check.due("no steps", x.isRight(0), true);
        runs(x, "+", new int[] {7}, 7);
        runs(x, "+*-", new int[] {7, 3, 30}, -9);
        runs(x, "-/", new int[] {7, 2}, -3);
        runs(x, "+//", new int[] {7, 1, -1}, -7);
        runs(x, "+/", new int[] {-7, -2}, 3);
        runs(x, "+/", new int[] {Integer.MIN_VALUE, -1}, Integer.MIN_VALUE);
        runs(x, "++", new int[] {Integer.MAX_VALUE, 1}, Integer.MIN_VALUE);
        runs(x, "+*", new int[] {65536, 65536}, 0);
        runs(x, "-*", new int[] {Integer.MAX_VALUE, 2}, 2);
        x.begin(0, 0, 1);
        int paper = 10;
        x.step(paper, '/', 0);
        x.step(paper, '*', 0);
        Check.due("divided by 0", x.isRight(paper), false);
    }

    private static void runs(Refereehall x, String operations, int[] numbers, int result) {
        int paper = x.begin(0, 0, 1);
        for (int i = 0; i < numbers.length; i++) {
            x.step(paper, operations.charAt(i), numbers[i]);
        }
        x.claim(paper, result);
        Check.due("program " + operations + " " + result, x.isRight(paper), true);
        x.claim(paper, result + 1);
        Check.due("another claim", x.isRight(paper), false);
    }

    private static void likeness() {
        Land land = new Land(9);
        Refereehall x = land.x;
        Check.outOfBounds("no paper", () -> x.likeness(0, 0));
        land.signed(0, 0, 7);
        land.signed(0, 0, 3);
        land.signed(0, 0, 0);
        land.signed(0, 0, 1048575);
        Check.outOfBounds("no other one", () -> x.likeness(0, 4));
        Check.outOfBounds("no other one -1", () -> x.likeness(0, -1));
        Check.due("of itself", x.likeness(0, 0), 100);
        Check.due("cut", x.likeness(0, 1), 66);
        Check.due("the other way", x.likeness(1, 0), 66);
        Check.due("none in both", x.likeness(0, 2), 0);
        Check.due("no words", x.likeness(2, 2), 0);
        Check.due("few of all", x.likeness(0, 3), 15);
        x.revise(0, 4);
        Check.due("of the last version, unsigned", x.likeness(0, 1), 0);
    }

    private static void correct() {
        Land land = new Land(9);
        Refereehall x = land.x;
        Check.outOfBounds("no paper", () -> x.correct(0, -1));
        land.accepted(0, 1, 2);
        Check.badArgument("words -1", () -> x.correct(0, -1));
        Check.badArgument("words 2^20", () -> x.correct(0, 1048576));
        Check.unsupported("in state a", () -> x.correct(0, 1));
        x.publish(0);
        Check.unsupported("no correction waits", () -> x.sign(0, 0));
        for (int i = 1; i < 6; i++) {
            Check.due("version", x.correct(0, 2), i);
            Check.due("state", x.state(0), 'p');
            Check.due("the elder one is public", x.publicVersion(0), i - 1);
            Check.due("sound", x.isSound(), true);
            Check.unsupported("one waits", () -> x.correct(0, 1));
            Check.unsupported("its authors stay", () -> x.addAuthor(0, 3));
            Check.unsupported("no author", () -> x.sign(0, 1));
            Check.due("signed", x.sign(0, 0), true);
            Check.due("public", x.publicVersion(0), i);
        }
        Check.unsupported("a 7th version", () -> x.correct(0, 1));
        String file = land.file(0);
        Check.due("letters", file.substring(file.indexOf('P')), "PNyUNyUNyUNyUNyU");
        Check.due("words", x.likeness(0, 0), 100);
    }

    private static void correctionEnds() {
        Land land = new Land(9);
        Refereehall x = land.x;
        x.begin(0, 0, 1);
        x.addAuthor(0, 3);
        x.sign(0, 0);
        x.sign(0, 3);
        x.assign(0);
        land.take(0, 1, 2);
        land.score(0, 60, 1, 2);
        x.decide(0);
        x.publish(0);
        x.correct(0, 1);
        Check.due("one of two", x.sign(0, 3), false);
        Check.unsupported("is there", () -> x.sign(0, 3));
        x.retract(0);
        Check.due("the elder one stays", x.publicVersion(0), 0);
        Check.unsupported("of a retracted one", () -> x.sign(0, 0));
        Check.unsupported("a retracted one", () -> x.correct(0, 1));
        Check.due("sound", x.isSound(), true);
    }

    private static void correctionTakesConcern() {
        Land land = new Land(9);
        Refereehall x = land.x;
        for (int i = 0; i < 4; i++) {
            land.accepted(0, 1, 2);
        }
        x.cite(1, 0);
        x.cite(2, 1);
        x.cite(2, 3);
        for (int i = 0; i < 4; i++) {
            x.publish(i);
        }
        x.retract(0);
        x.correct(2, 1);
        x.sign(2, 0);
        Check.due("it cites one with a concern", x.hasConcern(2), true);
        x.correct(1, 1);
        x.sign(1, 0);
        Check.due("it cites a retracted one", x.hasConcern(1), true);
        x.correct(1, 1);
        Check.due("taken out", x.dropCitation(1, 0), 0);
        Check.due("until it is signed", x.hasConcern(1), true);
        x.sign(1, 0);
        Check.due("taken away", x.hasConcern(1), false);
        Check.due("another one keeps its own", x.hasConcern(2), true);
        x.correct(2, 1);
        x.sign(2, 0);
        Check.due("cites none with a concern any more", x.hasConcern(2), false);
        Check.due("a later one", x.retract(3), 1);
        Check.due("anew", x.hasConcern(2), true);
    }

    private static void dropCitation() {
        Land land = new Land(9);
        Refereehall x = land.x;
        Check.outOfBounds("no paper", () -> x.dropCitation(0, 0));
        land.accepted(0, 1, 2);
        Check.outOfBounds("no other one", () -> x.dropCitation(0, 1));
        Check.unsupported("itself", () -> x.dropCitation(0, 0));
        land.signed(0);
        land.signed(0);
        Check.unsupported("not cited", () -> x.dropCitation(0, 1));
        x.cite(0, 1);
        x.cite(0, 2);
        Check.due("taken out", x.dropCitation(0, 1), 1);
        x.cite(0, 1);
        x.publish(0);
        Check.unsupported("published", () -> x.dropCitation(0, 1));
        x.correct(0, 1);
        Check.due("as a correction waits", x.dropCitation(0, 1), 1);
        x.sign(0, 0);
        Check.unsupported("as it is public", () -> x.dropCitation(0, 2));
        x.correct(0, 1);
        x.retract(0);
        Check.unsupported("retracted", () -> x.dropCitation(0, 2));
        x.cite(1, 0);
        x.withdraw(1);
        Check.due("withdrawn", x.dropCitation(1, 0), 0);
    }
}
