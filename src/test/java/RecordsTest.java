/** Promises 53 to 61: states, letters, days, rings, sums, shares and means. */
public final class RecordsTest {
    public static void main(String[] args) {
        states();
        letters();
        goOn();
        rings();
        checksum();
        acceptedShare();
        meanScore();
        isSound();
        Check.end();
    }

    private static void states() {
        Land land = new Land(9);
        Refereehall x = land.x;
        Check.outOfBounds("state of none", () -> x.state(0));
        Check.outOfBounds("state of -1", () -> x.state(-1));
        x.begin(0, 0, 1);
        Check.due("d", x.state(0), 'd');
        x.sign(0, 0);
        Check.due("s", x.state(0), 's');
        x.assign(0);
        Check.due("e", x.state(0), 'e');
        x.revise(0, 1);
        Check.due("d again", x.state(0), 'd');
        x.sign(0, 0);
        Check.due("e again", x.state(0), 'e');
        land.take(0, 1, 2);
        land.score(0, 60, 1, 2);
        x.decide(0);
        Check.due("a", x.state(0), 'a');
        x.publish(0);
        Check.due("p", x.state(0), 'p');
        x.correct(0, 1);
        Check.due("p with a correction", x.state(0), 'p');
        x.retract(0);
        Check.due("t", x.state(0), 't');
        Check.due("all letters", land.file(0), "bySEvySiiiiiiiikkrrAPNR");
    }

    private static void letters() {
        Land land = new Land(9);
        Refereehall x = land.x;
        Check.outOfBounds("letters of none", () -> x.letters(0));
        Check.outOfBounds("letter of none", () -> x.letter(0, 0));
        x.begin(0, 0, 1);
        Check.outOfBounds("letters of -1", () -> x.letters(-1));
        Check.outOfBounds("letter -1", () -> x.letter(0, -1));
        Check.outOfBounds("letter 1", () -> x.letter(0, 1));
        Check.due("letter 0", x.letter(0, 0), 'b');
        for (int i = 0; i < 100; i++) {
            x.addAuthor(0, 1);
            x.dropAuthor(0, 1);
        }
        Check.due("many letters", x.letters(0), 201);
        Check.due("the last but one", x.letter(0, 199), '+');
        Check.due("the last", x.letter(0, 200), '-');
        Check.outOfBounds("behind the last", () -> x.letter(0, 201));
    }

    private static void goOn() {
        Land land = new Land(9, 8);
        Refereehall x = land.x;
        Check.badArgument("0 days", () -> x.goOn(0));
        Check.badArgument("-1 days", () -> x.goOn(-1));
        Check.badArgument("100 days", () -> x.goOn(100));
        Check.due("nothing lapsed", x.goOn(99), 0);
        land.assigned(0);
        land.assigned(1);
        x.invite(0, 2);
        x.invite(1, 3);
        x.goOn(1);
        x.invite(0, 1);
        Check.due("of two papers", x.goOn(14), 5);
        Check.due("the later one", x.goOn(1), 1);
        Check.due("once each", x.goOn(99), 0);
        x.showAhead(0);
        Check.due("the day", x.priority(0), 99 + 1 + 14 + 1 + 99);
    }

    private static void rings() {
        Land land = new Land(9, 8);
        Refereehall x = land.x;
        Check.due("at first", x.rings(), 0);
        firstPersonPraises();
        land.taken(0, 1, 2);
        land.taken(1, 0, 2);
        land.taken(2, 0, 1);
        land.score(0, 70, 1);
        Check.due("one way", x.rings(), 0);
        land.score(1, 69, 0);
        Check.due("69 back", x.rings(), 0);
        land.score(2, 100, 1);
        x.report(1, 2, 70, 0, false);
        Check.due("one pair", x.rings(), 1);
        land.score(2, 90, 0);
        x.report(0, 2, 80, 0, false);
        Check.due("two pairs", x.rings(), 2);
        x.withdraw(0);
        Check.due("of a withdrawn paper too", x.rings(), 2);
        int paper = land.taken(3, 4);
        land.score(paper, 70, 4);
        int back = land.taken(4, 5);
        x.revise(back, 1);
        x.addAuthor(back, 6);
        x.sign(back, 4);
        x.sign(back, 6);
        land.score(back, 75, 5);
        int third = land.taken(5, 6, 4);
        land.score(third, 71, 6, 4);
        Check.due("by authors of any version", x.rings(), 4);
        x.revise(back, 1);
        x.dropAuthor(back, 6);
        Check.due("who was an author", x.rings(), 4);
    }

    private static void firstPersonPraises() {
        Land land = new Land(9);
        Refereehall x = land.x;
        land.taken(1, 0);
        land.score(0, 100, 0);
        land.taken(3, 2);
        land.score(1, 100, 2);
        Check.due("no pair", x.rings(), 0);
    }

    private static void checksum() {
        Land land = new Land(9);
        Refereehall x = land.x;
        Check.due("at first", x.checksum(), 0L);
        x.begin(0, 0, 1);
        Check.due("one letter", x.checksum(), 98L);
        x.begin(0, 0, 1);
        x.sign(0, 0);
        Check.due("by papers", x.checksum(), (((98L * 31 + 'y') * 31 + 'S') * 31) + 'b');
        for (int i = 0; i < 12; i++) {
            x.addAuthor(1, 1);
            x.dropAuthor(1, 1);
        }
        long sum = 0;
        for (int paper = 0; paper < 2; paper++) {
            for (char letter : land.file(paper).toCharArray()) {
                sum = sum * 31 + letter;
            }
        }
        Check.due("goes round", x.checksum(), sum);
    }

    private static void acceptedShare() {
        Land land = new Land(9);
        Refereehall x = land.x;
        Check.arithmetic("no paper", () -> x.acceptedShare());
        land.accepted(0, 1, 2);
        Check.due("all", x.acceptedShare(), 1f);
        land.signed(0);
        land.rejected(0, 1, 2);
        Check.due("one of three", x.acceptedShare(), 1f / 3f);
        x.publish(0);
        Check.due("published", x.acceptedShare(), 1f / 3f);
        x.retract(0);
        Check.due("retracted", x.acceptedShare(), 1f / 3f);
        x.withdraw(1);
        x.withdraw(2);
        Check.due("withdrawn", x.acceptedShare(), 1f / 3f);
    }

    private static void meanScore() {
        Land land = new Land(9);
        Refereehall x = land.x;
        Check.arithmetic("no report", () -> x.meanScore());
        land.taken(0, 1, 2, 3);
        Check.arithmetic("no report yet", () -> x.meanScore());
        land.score(0, 0, 1);
        Check.due("0", x.meanScore(), 0.0);
        land.score(0, 100, 2, 3);
        Check.due("not rounded", x.meanScore(), 200.0 / 3.0);
        x.withdraw(0);
        Check.due("of a withdrawn paper too", x.meanScore(), 200.0 / 3.0);
    }

    private static void isSound() {
        Land land = new Land(9, 8);
        Refereehall x = land.x;
        Check.due("at first", x.isSound(), true);
        land.published(0, 1, 2);
        x.correct(0, 1);
        Check.due("with a correction", x.isSound(), true);
        land.rejected(0, 1, 2);
        Check.due("rejected", x.isSound(), true);
        x.appeal(1);
        Check.due("appealed", x.isSound(), true);
        x.assign(1);
        Check.due("with another editor", x.isSound(), true);
        x.revise(1, 1);
        x.sign(1, 0);
        Check.due("signed with an editor", x.isSound(), true);
        x.revise(1, 1);
        x.addAuthor(1, 3);
        x.sign(1, 3);
        Check.due("half signed", x.isSound(), true);
        x.withdraw(1);
        x.retract(0);
        Check.due("withdrawn and retracted", x.isSound(), true);
    }
}
