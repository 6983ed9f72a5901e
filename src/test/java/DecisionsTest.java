/** Promises 24 to 26: decisions by the rules of a field, appeals and transfers. */
public final class DecisionsTest {
    public static void main(String[] args) {
        cannotBeDecided();
        twoApart();
        editorInConflict();
        bounds();
        boundsAtFirst();
        roundedDown();
        sixVersions();
        committees();
        equalPaper();
        appeal();
        transfer();
        Check.end();
    }

    private static void cannotBeDecided() {
        Land land = new Land(9);
        Refereehall x = land.x;
        Check.outOfBounds("no paper", () -> x.decide(0));
        land.taken(0, 1, 2, 3, 4);
        Check.unsupported("no report", () -> x.decide(0));
        land.score(0, 60, 1);
        Check.unsupported("one report", () -> x.decide(0));
        x.setRules(0, 4, 50, 35, 's');
        land.score(0, 60, 2, 3);
        Check.unsupported("three of four", () -> x.decide(0));
        x.setRules(1, 2, 50, 35, 's');
        Check.unsupported("rules of another field", () -> x.decide(0));
        x.revise(0, 1);
        x.setRules(0, 3, 50, 35, 's');
        Check.unsupported("in state d", () -> x.decide(0));
        x.sign(0, 0);
        Check.due("three of three", x.decide(0), 'a');
        Check.due("state", x.state(0), 'a');
        Check.due("letter", land.file(0), "bySEiiiiiiiikkkkrrrvySA");
        Check.unsupported("in state a", () -> x.decide(0));
    }

    /** Referee 1 has given 100 elsewhere, referee 2 nothing but on the paper. */
    private static void twoApart() {
        Land land = new Land(9);
        Refereehall x = land.x;
        land.taken(0, 1, 2, 3);
        land.taken(0, 1, 2, 3);
        land.score(1, 100, 1);
        land.score(0, 18, 1);
        Check.due("59 is the mean", x.evened(0, 1), 9);
        land.score(0, 60, 2);
        Check.due("no other score", x.evened(0, 2), 50);
        Check.unsupported("41 apart", () -> x.decide(0));
        x.alarm(0, 1);
        Check.unsupported("41 apart with an alarm", () -> x.decide(0));
        land.score(0, 60, 3);
        Check.due("three, with an alarm", x.decide(0), 'k');

        Land other = new Land(9);
        Refereehall y = other.x;
        other.taken(0, 1, 2);
        other.taken(0, 1, 2);
        other.score(1, 100, 1);
        other.score(0, 20, 1);
        other.score(0, 60, 2);
        Check.due("60 is the mean", y.evened(0, 1), 10);
        Check.due("40 apart, 30 is the mean", y.decide(0), 'x');
    }

    private static void editorInConflict() {
        Land land = new Land(9);
        Refereehall x = land.x;
        land.taken(0, 1, 2);
        land.score(0, 60, 1, 2);
        x.tellMoney(0, 9, 1);
        Check.unsupported("bound to the author", () -> x.decide(0));
        x.goOn(1);
        x.revise(0, 1);
        x.addAuthor(0, 3);
        x.sign(0, 0);
        x.sign(0, 3);
        x.revise(0, 1);
        x.dropAuthor(0, 3);
        x.sign(0, 0);
        x.sign(0, 3);
        x.tellMoney(3, 9, 1);
        Check.unsupported("bound to one who was an author", () -> x.decide(0));
        x.goOn(1);
        Check.due("bound no more", x.decide(0), 'a');
    }

    private static void bounds() {
        Land land = new Land(9);
        Refereehall x = land.x;
        for (int i = 0; i < 4; i++) {
            int paper = land.taken(0, 1, 2);
            land.score(paper, 60, 1, 2);
            Check.due("evened", x.evened(paper, 1), 50);
            if (i == 0) {
                x.setRules(0, 2, 51, 50, 's');
                Check.due("from the bound on not rejected", x.decide(paper), 'q');
                Check.due("letter", x.letter(paper, x.letters(paper) - 1), 'Q');
            } else if (i == 1) {
                x.setRules(0, 2, 51, 51, 's');
                Check.due("below the bound rejected", x.decide(paper), 'x');
                Check.due("letter", x.letter(paper, x.letters(paper) - 1), 'X');
            } else if (i == 2) {
                x.setRules(0, 2, 50, 50, 's');
                Check.due("from the bound on accepted", x.decide(paper), 'a');
                Check.due("letter", x.letter(paper, x.letters(paper) - 1), 'A');
            } else {
                x.setRules(0, 2, 50, 35, 's');
                x.revise(paper, 1);
                x.sign(paper, 0);
                Check.due("reports on an elder version count", x.decide(paper), 'a');
            }
        }
        int open = land.taken(0, 1, 2);
        x.report(open, 1, 60, 1, false);
        x.report(open, 2, 60, 0, false);
        x.revise(open, 1);
        x.sign(open, 0);
        Check.due("a point is open", x.decide(open), 'q');
        x.revise(open, 1);
        x.meet(open, 1, 0);
        x.sign(open, 0);
        Check.due("no point is open", x.decide(open), 'a');
    }

    private static void boundsAtFirst() {
        Check.due("a mean of 50", decided(60), 'a');
        Check.due("a mean of 49", decided(58), 'q');
        Check.due("a mean of 35", decided(30), 'q');
        Check.due("a mean of 34", decided(28), 'x');
    }

    /** By the rules at first, with two referees who have given 60 elsewhere. */
    private static char decided(int score) {
        Land land = new Land(9);
        land.taken(0, 1, 2);
        land.taken(0, 1, 2);
        land.score(0, score, 1, 2);
        land.score(1, 60, 1, 2);
        return land.x.decide(0);
    }

        private static void roundedDown() {
        Land land = new Land(9);
        Refereehall x = land.x;
        land.taken(0, 1, 2);
        land.taken(0, 1, 2);
        land.score(0, 100, 1, 2);
        land.score(1, 0, 1, 2);
        land.taken(0, 1, 2);
        x.report(2, 1, 2, 0, false);
        x.report(2, 2, 1, 0, false);
        Check.due("means of 34 and 33", x.evened(2, 1), 18);
        Check.due("means of 34 and 33", x.evened(2, 2), 18);
        Check.due("of the least", x.evened(1, 1), 16);
        Check.due("of the least", x.evened(1, 2), 17);
        x.setRules(0, 2, 17, 17, 's');
        Check.due("the mean 16 is less than 17", x.decide(1), 'x');

        Land other = new Land(9, 8);
        Refereehall y = other.x;
        for (int i = 0; i < 6; i++) {
            other.taken(0, 1, 2);
        }
        for (int i = 1; i < 6; i++) {
            other.score(i, 100, 1);
            other.score(i, i == 1 ? 95 : 100, 2);
        }
        y.setRules(0, 2, 0, 0, 's');
        y.report(0, 1, 32, 0, false);
        y.report(0, 2, 32, 0, false);
        Check.due("a mean of 88", y.evened(0, 1), -6);
        Check.due("a mean of 87", y.evened(0, 2), -5);
        Check.due("below 0", y.decide(0), 'x');

        Land third = new Land(9);
        Refereehall z = third.x;
        for (int i = 0; i < 3; i++) {
            third.taken(0, 1, 2);
        }
        for (int i = 1; i < 3; i++) {
            third.score(i, 100, 1);
            third.score(i, i == 1 ? 100 : 98, 2);
        }
        z.report(0, 1, 25, 0, false);
        z.report(0, 2, 24, 0, false);
        Check.due("a mean of 75", z.evened(0, 1), 0);
        Check.due("a mean of 74", z.evened(0, 2), 0);
        z.setRules(0, 2, 0, 0, 's');
        Check.due("0 is not below 0", z.decide(0), 'a');

        Land fourth = new Land(9);
        Refereehall u = fourth.x;
        for (int i = 0; i < 3; i++) {
            fourth.taken(0, 1, 2);
        }
        for (int i = 1; i < 3; i++) {
            fourth.score(i, 100, 1, 2);
        }
        u.report(0, 1, 25, 0, false);
        u.report(0, 2, 23, 0, false);
        Check.due("0", u.evened(0, 1), 0);
        Check.due("-1", u.evened(0, 2), -1);
        u.setRules(0, 2, 0, 0, 's');
        Check.due("-1/2 is rounded down", u.decide(0), 'x');
    }

    private static void sixVersions() {
        Land land = new Land(9);
        Refereehall x = land.x;
        land.taken(0, 1, 2);
        x.report(0, 1, 60, 1, false);
        x.report(0, 2, 60, 0, false);
        for (int i = 0; i < 5; i++) {
            x.revise(0, 1);
            x.sign(0, 0);
        }
        Check.due("no other version can be asked for", x.decide(0), 'x');
        Check.due("letter", x.letter(0, x.letters(0) - 1), 'X');
        x.appeal(0);
        Check.noElement("the editor rejected it", () -> x.assign(0));
    }

    private static void committees() {
        Land land = new Land(9);
        Refereehall x = land.x;
        for (int i = 0; i < 3; i++) {
            land.taken(0, 1, 2, 3);
        }
        land.score(1, 100, 1);
        land.score(0, 0, 1);
        land.score(0, 60, 2, 3);
        Check.due("0", x.evened(0, 1), 0);
        Check.due("50 apart of three", x.decide(0), 'x');
        land.score(2, 100, 1);
        land.score(1, 60, 2, 3);
        Check.due("a mean of 66", x.evened(1, 1), 84);
        Check.due("34 apart", x.decide(1), 'a');
        torn(10, -10, 'x');
        torn(8, -11, 'k');
    }

    /** Two evened scores of 50, and one of a referee who has given 100 twice. */
    private static void torn(int score, int evened, char due) {
        Land land = new Land(9);
        Refereehall x = land.x;
        for (int i = 0; i < 3; i++) {
            land.taken(0, 1, 2, 3);
        }
        land.score(1, 100, 1);
        land.score(2, 100, 1);
        land.score(0, 60, 2);
        land.score(0, score, 1);
        land.score(0, 60, 3);
        Check.due("the least", x.evened(0, 1), evened);
        Check.due("a committee or not", x.decide(0), due);
        Check.due("letter", x.letter(0, x.letters(0) - 1), due == 'k' ? 'K' : 'X');
    }

    private static void equalPaper() {
        Land land = new Land(9);
        Refereehall x = land.x;
        land.accepted(0, 1, 2);
        land.taken(3, 1, 2);
        land.score(1, 60, 1, 2);
        x.publish(0);
        Check.due("equal to one that is published", x.decide(1), 'q');
        x.revise(1, 2);
        x.sign(1, 3);
        Check.due("equal no more", x.decide(1), 'a');
    }

    private static void appeal() {
        Land land = new Land(9, 8);
        Refereehall x = land.x;
        Check.outOfBounds("no paper", () -> x.appeal(0));
        land.taken(0, 1, 2, 3);
        Check.unsupported("in state e", () -> x.appeal(0));
        x.report(0, 1, 60, 2, true);
        x.report(0, 2, 60, 0, true);
        x.setRules(0, 2, 100, 100, 's');
        x.decide(0);
        Check.due("how many count no more", x.appeal(0), 2);
        Check.due("state", x.state(0), 's');
        Check.due("letter", x.letter(0, x.letters(0) - 1), 'l');
        Check.noElement("no editor", () -> x.editorOf(0));
        Check.due("no invitations", x.invitation(0, 3), '-');
        Check.due("no points", x.openPoints(0), 0);
        Check.noElement("no report", () -> x.evened(0, 1));
        x.assign(0);
        land.take(0, 1, 2);
        Check.due("from the beginning", x.report(0, 1, 60, 0, true), 1);
        Check.unsupported("elder ones do not count", () -> x.decide(0));
        x.report(0, 2, 60, 0, true);
        Check.due("rejected again", x.decide(0), 'x');
        Check.unsupported("a second time", () -> x.appeal(0));
        x.transfer(0, 1);
        x.addEditor(7, 1);
        x.setRules(1, 2, 100, 100, 's');
        x.assign(0);
        x.decide(0);
        Check.unsupported("a second time, in another field", () -> x.appeal(0));
        Check.due("withdrawing is not closed", x.withdraw(0), 'x');
    }

    private static void transfer() {
        Land land = new Land(9);
        Refereehall x = land.x;
        Check.outOfBounds("no paper", () -> x.transfer(0, 8));
        land.taken(0, 1, 2, 3);
        Check.badArgument("field 8", () -> x.transfer(0, 8));
        Check.badArgument("field -1", () -> x.transfer(0, -1));
        Check.badArgument("its own field", () -> x.transfer(0, 0));
        Check.unsupported("in state e", () -> x.transfer(0, 1));
        x.report(0, 1, 60, 1, true);
        x.report(0, 2, 60, 2, false);
        x.revise(0, 1);
        x.sign(0, 0);
        x.alarm(0, 1);
        x.setRules(0, 2, 100, 100, 's');
        x.report(0, 3, 60, 3, true);
        Check.due("a committee first", x.decide(0), 'k');
        for (int i = 5; i < 8; i++) {
            x.addEditor(i, 3);
        }
        x.seat(0);
        x.vote(0, 5, true);
        Check.due("confirmed", x.vote(0, 6, true), 'c');
        Check.due("rejected", x.decide(0), 'x');
        Check.due("those that may go along", x.transfer(0, 1), 2);
        Check.due("state", x.state(0), 's');
        Check.due("letter", x.letter(0, x.letters(0) - 1), 'T');
        Check.due("their points", x.openPoints(0), 4);
        Check.noElement("no editor", () -> x.editorOf(0));
        Check.due("no invitations", x.invitation(0, 4), '-');
        x.addEditor(8, 1);
        Check.due("an editor of the other field", x.assign(0), 8);
        x.setRules(1, 2, 100, 100, 's');
        Check.due("confirmed for good, by the rules of the other field", x.decide(0), 'x');
        Check.due("along again", x.transfer(0, 2), 2);
        x.addEditor(4, 2);
        Check.due("an editor again", x.assign(0), 4);
        x.setRules(2, 2, 50, 35, 's');
        Check.due("points are open", x.decide(0), 'q');
        x.setRules(2, 2, 100, 100, 's');
        x.revise(0, 1);
        x.sign(0, 0);
        Check.due("rejected by those that went along", x.decide(0), 'x');
        Check.due("all end with an appeal", x.appeal(0), 2);
        Check.due("none count", x.openPoints(0), 0);
    }
}
