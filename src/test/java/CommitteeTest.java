/** Promises 43 to 45: complaints, committees and votes. */
public final class CommitteeTest {
    public static void main(String[] args) {
        complain();
        seat();
        seatOrder();
        whoMayNotSit();
        oneHouse();
        replaced();
        vote();
        voteOfPublished();
        deny();
        ends();
        firstPerson();
        Check.end();
    }

    /** A paper of author 0, for which a committee is to decide. */
    private static Land judged(int... sitting) {
        Land land = new Land(9);
        for (int i : sitting) {
            land.x.addEditor(i, 0);
        }
        int paper = land.signed(0);
        land.x.sendAway(1, 1);
        land.x.assign(paper);
        land.x.sendAway(1, 0);
        land.take(paper, 7, 8);
        land.score(paper, 60, 7, 8);
        land.x.alarm(paper, 7);
        land.x.decide(paper);
        return land;
    }

    /** Judged ones with an editor who is none but of this paper. */
    private static Land judgedBy9(int... sitting) {
        Land land = new Land(9);
        int paper = land.taken(0, 7, 8);
        land.score(paper, 60, 7, 8);
        land.x.alarm(paper, 7);
        land.x.decide(paper);
        for (int i : sitting) {
            land.x.addEditor(i, 0);
        }
        return land;
    }

    private static Land published(int... sitting) {
        Land land = new Land(9);
        land.published(0, 7, 8);
        for (int i : sitting) {
            land.x.addEditor(i, 0);
        }
        return land;
    }

    private static void complain() {
        Land land = new Land(9);
        Refereehall x = land.x;
        Check.outOfBounds("no paper", () -> x.complain(0, 1));
        land.withOneGone(0, 3);
        x.assign(0);
        land.take(0, 1, 2);
        land.score(0, 60, 1, 2);
        x.decide(0);
        Check.outOfBounds("nobody", () -> x.complain(0, 10));
        Check.unsupported("in state a", () -> x.complain(0, 1));
        x.publish(0);
        Check.unsupported("an author", () -> x.complain(0, 0));
        Check.unsupported("who was an author", () -> x.complain(0, 3));
        Check.due("the first", x.complain(0, 1), 1);
        Check.due("letter", x.letter(0, x.letters(0) - 1), 'j');
        Check.due("state", x.state(0), 'p');
        Check.unsupported("one waits", () -> x.complain(0, 2));
        for (int i = 4; i < 7; i++) {
            x.addEditor(i, 0);
        }
        x.seat(0);
        Check.unsupported("one waits still", () -> x.complain(0, 2));
        x.vote(0, 4, false);
        x.vote(0, 5, false);
        Check.due("the second", x.complain(0, 9), 2);
        x.retract(0);
        Check.unsupported("retracted", () -> x.complain(0, 1));
    }

    private static void seat() {
        Land land = judgedBy9(1, 2);
        Refereehall x = land.x;
        Check.outOfBounds("no paper", () -> x.seat(1));
        Check.due("to be decided", x.state(0), 'k');
        Check.noElement("two are too few", () -> x.seat(0));
        Check.due("nothing was noted", land.file(0).endsWith("K"), true);
        x.addEditor(3, 7);
        Check.due("three", x.seat(0), 2 + 4 + 8);
        Check.due("letter", land.file(0).endsWith("Ku"), true);
        Check.unsupported("one sits", () -> x.seat(0));
        land.signed(0);
        Check.unsupported("in state s", () -> x.seat(1));
        Land other = published(1, 2, 3);
        Check.unsupported("no complaint waits", () -> other.x.seat(0));
        other.x.complain(0, 5);
        Check.due("of a published one", other.x.seat(0), 2 + 4 + 8);
    }

    private static void seatOrder() {
        Land land = judgedBy9();
        Refereehall x = land.x;
        x.addEditor(1, 7);
        x.addEditor(2, 3);
        x.addEditor(3, 2);
        x.addEditor(4, 1);
        x.addEditor(5, 1);
        x.tie(0, 1);
        x.tie(1, 2);
        x.tie(2, 3);
        Check.due("the nearest", x.seat(0), 8 + 16 + 32);
        Land other = judgedBy9();
        Refereehall y = other.x;
        y.addEditor(1, 7);
        y.addEditor(2, 7);
        y.addEditor(3, 6);
        y.addEditor(3, 3);
        y.addEditor(4, 6);
        for (int i = 0; i < 6; i++) {
            y.tie(i, i + 1);
        }
        Check.due("those without any way behind, the lowest", y.seat(0), 2 + 8 + 16);
        Land third = judgedBy9(5, 4, 3, 2);
        third.x.addEditor(1, 1);
        Check.due("the lowest", third.x.seat(0), 4 + 8 + 16);
    }

    private static void whoMayNotSit() {
        Land land = judgedBy9(0, 7, 8, 1, 2, 3, 4, 5);
        Refereehall x = land.x;
        x.addEditor(6, 5);
        x.sendAway(1, 2);
        x.tellConflict(2, 0);
        Check.due("all others", x.seat(0), 8 + 16 + 32);
        Land other = judged(1, 2, 3, 4);
        Check.due("the editor of the paper is the lowest there", other.x.editorOf(0), 2);
        Check.due("not the editor", other.x.seat(0), 2 + 8 + 16);

        Land third = new Land(1, 2);
        Refereehall y = third.x;
        third.rejected(0, 7, 8);
        Check.due("the first editor", y.editorOf(0), 1);
        y.appeal(0);
        y.assign(0);
        third.take(0, 5, 6);
        third.score(0, 60, 5, 6);
        y.alarm(0, 5);
        y.decide(0);
        y.addEditor(3, 0);
        y.addEditor(4, 0);
        y.addEditor(7, 0);
        y.addEditor(8, 0);
        Check.noElement("neither who was its editor nor who reported ever", () -> y.seat(0));
        y.addEditor(9, 0);
        Check.due("others", y.seat(0), 8 + 16 + 512);
    }

    private static void oneHouse() {
        Land land = judgedBy9(1, 2, 3, 4);
        Refereehall x = land.x;
        x.tellConflict(1, 2);
        Check.due("the first, and who has no conflict with it", x.seat(0), 2 + 8 + 16);
        Land other = judgedBy9(1, 2, 3, 4);
        Refereehall y = other.x;
        y.tellConflict(2, 3);
        Check.due("nor with the second", y.seat(0), 2 + 4 + 16);
        Land third = judgedBy9(1, 2, 3);
        third.x.tellConflict(1, 3);
        Check.noElement("not three without a conflict", () -> third.x.seat(0));
    }

    private static void replaced() {
        Land land = judgedBy9(1, 2, 3);
        Refereehall x = land.x;
        x.seat(0);
        x.vote(0, 1, true);
        x.tellConflict(1, 0);
        Check.unsupported("who has a conflict has voted", () -> x.seat(0));
        x.tellConflict(2, 0);
        Check.unsupported("cannot vote", () -> x.vote(0, 2, true));
        Check.noElement("there are no others", () -> x.seat(0));
        Check.due("the elder one stays", x.sees(3, 0, 1), true);
        x.addEditor(4, 0);
        x.addEditor(5, 0);
        Check.due("another one", x.seat(0), 8 + 16 + 32);
        Check.due("letters", land.file(0).endsWith("Kucu"), true);
        Check.unsupported("no member any more", () -> x.vote(0, 1, true));
        Check.due("without votes", x.vote(0, 3, true), 'o');
        Check.due("over", x.vote(0, 4, true), 'c');

        Land other = judgedBy9(1, 2, 3);
        Refereehall y = other.x;
        y.seat(0);
        y.tellMoney(3, 0, 1);
        y.goOn(1);
        Check.unsupported("the conflict is over", () -> y.seat(0));
        Check.due("votes again", y.vote(0, 3, false), 'o');
    }

    private static void vote() {
        Land land = judgedBy9(1, 2, 3);
        Refereehall x = land.x;
        Check.outOfBounds("no paper", () -> x.vote(1, 1, true));
        Check.unsupported("no committee", () -> x.vote(0, 1, true));
        x.seat(0);
        Check.outOfBounds("nobody", () -> x.vote(0, 10, true));
        Check.unsupported("no member", () -> x.vote(0, 9, true));
        Check.due("first", x.vote(0, 1, true), 'o');
        Check.unsupported("has voted", () -> x.vote(0, 1, false));
        Check.due("one each", x.vote(0, 3, false), 'o');
        Check.due("second for the same", x.vote(0, 2, true), 'c');
        Check.due("state", x.state(0), 'e');
        Check.due("letters", land.file(0).endsWith("KucccV"), true);
        Check.due("sound as it confirmed", x.isSound(), true);
        Check.unsupported("it is over", () -> x.vote(0, 3, true));
        Check.unsupported("none is to be seated", () -> x.seat(0));
        Check.due("the alarm is no cause any more", x.decide(0), 'a');
        Check.due("sound", x.isSound(), true);
    }

    private static void voteOfPublished() {
        Land land = published(1, 2, 3);
        Refereehall x = land.x;
        land.accepted(0, 7, 8);
        x.cite(1, 0);
        x.publish(1);
        x.complain(0, 5);
        x.seat(0);
        x.vote(0, 1, false);
        x.vote(0, 2, false);
        Check.due("nothing of it", x.state(0), 'p');
        Check.due("letters", land.file(0).endsWith("PjuccD"), true);
        Check.due("sound as it denied", x.isSound(), true);
        x.complain(0, 5);
        x.seat(0);
        Check.due("first", x.vote(0, 3, true), 'o');
        Check.due("confirmed", x.vote(0, 2, true), 'c');
        Check.due("retracted", x.state(0), 't');
        Check.due("letters", land.file(0).endsWith("juccDjuccVR"), true);
        Check.due("a concern of those that cite it", x.hasConcern(1), true);
        Check.unsupported("no complaint waits", () -> x.seat(0));
        Check.due("sound", x.isSound(), true);
    }

    private static void deny() {
        Land land = judgedBy9(1, 2, 3);
        Refereehall x = land.x;
        x.seat(0);
        x.vote(0, 2, false);
        Check.due("denied", x.vote(0, 3, false), 'd');
        Check.due("rejected", x.state(0), 'x');
        Check.due("letters", land.file(0).endsWith("KuccD"), true);
        Check.due("sound as it denied", x.isSound(), true);
        x.appeal(0);
        x.sendAway(1, 1);
        x.sendAway(2, 1);
        x.sendAway(3, 1);
        Check.due("the editor did not reject it", x.assign(0), 9);
        land.take(0, 4, 5);
        land.score(0, 60, 4, 5);
        x.alarm(0, 4);
        Check.due("not confirmed: a cause again", x.decide(0), 'k');
        Check.due("sound", x.isSound(), true);
    }

    private static void firstPerson() {
        Land land = new Land(9);
        Refereehall x = land.x;
        int paper = land.taken(1, 7, 8);
        land.score(paper, 60, 7, 8);
        x.alarm(paper, 7);
        x.decide(paper);
        x.addEditor(0, 0);
        x.addEditor(2, 0);
        x.addEditor(3, 0);
        Check.due("with person 0", x.seat(paper), 1 + 4 + 8);
        x.tellConflict(0, 1);
        Check.unsupported("person 0 cannot vote", () -> x.vote(paper, 0, true));
        x.addEditor(4, 0);
        Check.due("without person 0", x.seat(paper), 4 + 8 + 16);
    }

    private static void ends() {
        Land land = judgedBy9(1, 2, 3);
        Refereehall x = land.x;
        x.seat(0);
        Check.due("withdrawn", x.withdraw(0), 'k');
        Check.unsupported("over as it is withdrawn", () -> x.vote(0, 1, true));
        Check.unsupported("none can be seated", () -> x.seat(0));
        Land other = published(1, 2, 3);
        Refereehall y = other.x;
        y.complain(0, 5);
        y.seat(0);
        y.retract(0);
        Check.unsupported("over as it is retracted", () -> y.vote(0, 1, true));
        Check.unsupported("none for a retracted one", () -> y.seat(0));
    }
}
