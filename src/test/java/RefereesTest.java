/** Promises 17 to 23 and 41: waves of invitations, reports, evened scores, points and alarms. */
public final class RefereesTest {
    public static void main(String[] args) {
        invite();
        whoIsNotAsked();
        order();
        lapse();
        answer();
        answerInOtherStates();
        report();
        reportConflicts();
        evened();
        meet();
        alarm();
        laterReport();
        firstPerson();
        Check.end();
    }

    private static void invite() {
        Land land = new Land(9);
        Refereehall x = land.x;
        Check.outOfBounds("no paper", () -> x.invite(0, 0));
        land.signed(0);
        Check.badArgument("0 people", () -> x.invite(0, 0));
        Check.badArgument("6 people", () -> x.invite(0, 6));
        Check.unsupported("in state s", () -> x.invite(0, 1));
        x.assign(0);
        Check.due("a wave", x.invite(0, 5), 5);
        Check.due("letters", land.file(0), "bySEiiiii");
        Check.due("asked", x.invitation(0, 5), 'o');
        Check.due("not asked", x.invitation(0, 6), '-');
        Check.due("the next wave finds fewer", x.invite(0, 5), 3);
        Check.due("asked now", x.invitation(0, 8), 'o');
        Check.due("the editor is not asked", x.invitation(0, 9), '-');
        Check.due("nor the author", x.invitation(0, 0), '-');
        Check.due("nobody is left", x.invite(0, 1), 0);
        Check.due("letters of both", land.file(0), "bySEiiiiiiii");
        Check.outOfBounds("invitation of nobody", () -> x.invitation(0, 10));
        Check.outOfBounds("invitation of -1", () -> x.invitation(0, -1));
        Check.outOfBounds("invitation for no paper", () -> x.invitation(1, 0));
    }

    private static void whoIsNotAsked() {
        Land land = new Land(9);
        Refereehall x = land.x;
        x.begin(0, 0, 1);
        x.addAuthor(0, 1);
        x.sign(0, 0);
        x.sign(0, 1);
        x.revise(0, 3);
        x.dropAuthor(0, 1);
        x.sign(0, 0);
        x.sign(0, 1);
        x.assign(0);
        int wordless = x.addPerson(3, 4);
        int colleague = x.addPerson(9, 3);
        int housemate = x.addPerson(1, 3);
        x.sendAway(2, 1);
        x.tellConflict(3, 1);
        x.tellMoney(4, 9, 1);
        Check.due("all who may be", x.invite(0, 5), 4);
        Check.due("who was an author", x.invitation(0, 1), '-');
        Check.due("who is away", x.invitation(0, 2), '-');
        Check.due("kin of one who was an author", x.invitation(0, 3), '-');
        Check.due("bound to the editor", x.invitation(0, 4), '-');
        Check.due("without a word in common", x.invitation(0, wordless), '-');
        Check.due("of the house of the editor", x.invitation(0, colleague), '-');
        Check.due("of the house of one who was an author", x.invitation(0, housemate), '-');
        x.goOn(1);
        Check.due("a day later", x.invite(0, 5), 2);
        Check.due("is back", x.invitation(0, 2), 'o');
        Check.due("is not bound any more", x.invitation(0, 4), 'o');
    }

    private static void order() {
        Refereehall x = Check.watch(new Refereehall());
        int[] words = {7, 0, 1, 3, 3, 6, 7, 8};
        for (int i = 0; i < words.length; i++) {
            x.addPerson(i, words[i]);
        }
        x.addEditor(1, 0);
        x.begin(0, 0, 7);
        x.sign(0, 0);
        x.assign(0);
        x.invite(0, 1);
        Check.due("three words in common", x.invitation(0, 6), 'o');
        x.invite(0, 1);
        Check.due("two words, the lowest", x.invitation(0, 3), 'o');
        x.begin(0, 0, 3);
        x.sign(1, 0);
        x.assign(1);
        x.invite(1, 1);
        Check.due("two words, without another invitation", x.invitation(1, 4), 'o');
        x.answer(0, 3, true);
        x.answer(0, 6, false);
        x.invite(1, 1);
        Check.due("a refused one does not count, a taken one does", x.invitation(1, 6), 'o');
        x.report(0, 3, 50, 0, false);
        x.begin(0, 0, 3);
        x.sign(2, 0);
        x.assign(2);
        x.invite(2, 1);
        Check.due("one with a report does not count", x.invitation(2, 3), 'o');
        x.goOn(15);
        x.invite(2, 1);
        Check.due("lapsed ones do not count", x.invitation(2, 4), 'o');
        x.withdraw(2);
        x.begin(0, 0, 3);
        x.sign(3, 0);
        x.assign(3);
        x.invite(3, 2);
        Check.due("an open one for a withdrawn paper counts", x.invitation(3, 4), '-');
        Check.due("the others", x.invitation(3, 6), 'o');
    }

    private static void lapse() {
        Land land = new Land(9);
        Refereehall x = land.x;
        land.assigned(0);
        x.goOn(3);
        x.invite(0, 3);
        x.answer(0, 1, true);
        x.answer(0, 2, false);
        Check.due("14 days later", x.goOn(14), 0);
        Check.due("still open", x.invitation(0, 3), 'o');
        x.invite(0, 1);
        Check.due("15 days later", x.goOn(1), 1);
        Check.due("lapsed", x.invitation(0, 3), 'z');
        Check.due("taken stays", x.invitation(0, 1), 'k');
        Check.due("refused stays", x.invitation(0, 2), 'n');
        Check.due("sent later", x.invitation(0, 4), 'o');
        Check.due("letters", land.file(0), "bySEiiikniz");
        Check.unsupported("answer a lapsed one", () -> x.answer(0, 3, true));
        x.withdraw(0);
        Check.due("for a withdrawn paper too", x.goOn(99), 1);
        Check.due("letters to the end", land.file(0), "bySEiiiknizWz");
    }

    private static void answer() {
        Land land = new Land(9);
        Refereehall x = land.x;
        Check.outOfBounds("no paper", () -> x.answer(0, 0, true));
        land.assigned(0);
        x.invite(0, 5);
        Check.outOfBounds("nobody", () -> x.answer(0, 10, true));
        Check.outOfBounds("person -1", () -> x.answer(0, -1, false));
        Check.unsupported("who was not asked", () -> x.answer(0, 6, false));
        Check.due("first", x.answer(0, 1, true), 1);
        Check.due("second", x.answer(0, 2, true), 2);
        Check.due("refused", x.answer(0, 3, false), 2);
        Check.due("taken", x.invitation(0, 1), 'k');
        Check.due("refused", x.invitation(0, 3), 'n');
        Check.unsupported("taken already", () -> x.answer(0, 1, false));
        Check.unsupported("refused already", () -> x.answer(0, 3, true));
        x.report(0, 1, 50, 0, false);
        x.tellConflict(4, 0);
        Check.unsupported("a conflict with an author", () -> x.answer(0, 4, true));
        Check.due("that one may refuse, and a report is none to come", x.answer(0, 4, false), 1);
        x.tellConflict(5, 9);
        Check.unsupported("a conflict with the editor", () -> x.answer(0, 5, true));
        Check.due("letters", land.file(0), "bySEiiiiikknrn");
    }

    private static void answerInOtherStates() {
        Land land = new Land(9);
        Refereehall x = land.x;
        land.assigned(0);
        x.invite(0, 5);
        x.revise(0, 1);
        Check.due("of a draft", x.answer(0, 1, true), 1);
        x.addAuthor(0, 2);
        Check.unsupported("who is an author by now", () -> x.answer(0, 2, true));
        x.withdraw(0);
        Check.due("of a withdrawn paper", x.answer(0, 3, true), 2);
    }

    private static void report() {
        Land land = new Land(9);
        Refereehall x = land.x;
        Check.outOfBounds("no paper", () -> x.report(0, 0, -1, 0, true));
        land.assigned(0);
        x.invite(0, 4);
        x.answer(0, 1, true);
        x.answer(0, 2, true);
        x.answer(0, 4, false);
        Check.outOfBounds("nobody", () -> x.report(0, 10, -1, 0, true));
        Check.badArgument("score -1", () -> x.report(0, 1, -1, 0, true));
        Check.badArgument("score 101", () -> x.report(0, 1, 101, 0, true));
        Check.badArgument("points -1", () -> x.report(0, 1, 50, -1, true));
        Check.badArgument("points 5", () -> x.report(0, 5, 50, 5, true));
        Check.unsupported("open", () -> x.report(0, 3, 50, 0, true));
        Check.unsupported("refused", () -> x.report(0, 4, 50, 0, true));
        Check.unsupported("not asked", () -> x.report(0, 5, 50, 0, true));
        Check.due("the first", x.report(0, 1, 0, 4, true), 1);
        Check.due("reported", x.invitation(0, 1), 'r');
        Check.unsupported("by it already", () -> x.report(0, 1, 0, 0, true));
        Check.due("points", x.openPoints(0), 4);
        x.revise(0, 1);
        Check.unsupported("in state d", () -> x.report(0, 2, 100, 0, true));
        x.sign(0, 0);
        Check.due("the second", x.report(0, 2, 100, 0, true), 2);
        Check.due("letters", land.file(0), "bySEiiiikknrvySr");
        Check.due("mean", x.meanScore(), 50.0);
    }

    private static void reportConflicts() {
        Land land = new Land(9);
        Refereehall x = land.x;
        land.taken(0, 1, 2, 3);
        x.tellMoney(1, 0, 2);
        Check.unsupported("a conflict with the author", () -> x.report(0, 1, 50, 0, true));
        x.tellMoney(2, 9, 2);
        Check.unsupported("a conflict with the editor", () -> x.report(0, 2, 50, 0, true));
        x.goOn(2);
        Check.due("no conflict any more", x.report(0, 1, 50, 0, true), 1);
        Check.due("with the editor neither", x.report(0, 2, 50, 0, true), 2);
        x.revise(0, 1);
        x.addAuthor(0, 4);
        x.sign(0, 0);
        x.sign(0, 4);
        x.tellConflict(3, 4);
        Check.unsupported("a conflict with an author who came later", () -> x.report(0, 3, 50, 0, true));
    }

    private static void evened() {
        Land land = new Land(9);
        Refereehall x = land.x;
        Check.outOfBounds("no paper", () -> x.evened(0, 0));
        land.taken(0, 1, 2);
        Check.outOfBounds("nobody", () -> x.evened(0, 10));
        Check.noElement("no report", () -> x.evened(0, 1));
        land.score(0, 70, 1);
        Check.due("the only score", x.evened(0, 1), 50);
        land.taken(0, 1, 2);
        land.score(1, 31, 1);
        Check.due("the mean 50, rounded down", x.evened(0, 1), 70);
        Check.due("of the later one", x.evened(1, 1), 31);
        x.withdraw(1);
        Check.due("a withdrawn paper counts", x.evened(0, 1), 70);
        land.score(0, 0, 2);
        Check.due("another referee", x.evened(0, 2), 50);
        Check.noElement("who was not asked", () -> x.evened(0, 0));
    }

    private static void meet() {
        Land land = new Land(9);
        Refereehall x = land.x;
        Check.outOfBounds("no paper", () -> x.meet(0, 0, 0));
        Check.outOfBounds("points of no paper", () -> x.openPoints(0));
        land.taken(0, 1, 2, 3);
        Check.outOfBounds("nobody", () -> x.meet(0, 10, 0));
        Check.due("no points", x.openPoints(0), 0);
        x.report(0, 1, 60, 2, false);
        x.report(0, 2, 60, 1, false);
        Check.due("all points", x.openPoints(0), 3);
        Check.unsupported("no later version", () -> x.meet(0, 1, 0));
        x.revise(0, 1);
        Check.unsupported("no report", () -> x.meet(0, 3, 0));
        Check.noElement("no point -1", () -> x.meet(0, 1, -1));
        Check.noElement("no point 2", () -> x.meet(0, 1, 2));
        Check.noElement("no point 32", () -> x.meet(0, 1, 32));
        Check.due("met in state d", x.meet(0, 1, 1), 2);
        Check.noElement("met already", () -> x.meet(0, 1, 1));
        x.sign(0, 0);
        Check.due("met in state e", x.meet(0, 2, 0), 1);
        x.report(0, 3, 60, 1, false);
        Check.due("one more", x.openPoints(0), 2);
        Check.unsupported("reported on this version", () -> x.meet(0, 3, 0));
        Check.due("not met", x.decide(0), 'q');
        Check.unsupported("in state q", () -> x.meet(0, 1, 0));
        x.revise(0, 1);
        Check.due("met on the next version", x.meet(0, 3, 0), 1);
        Check.due("all met", x.meet(0, 1, 0), 0);
        Check.due("letters", land.file(0), "bySEiiiiiiiikkkrrvmySmrQvmm");
    }

    private static void alarm() {
        Land land = new Land(9);
        Refereehall x = land.x;
        Check.outOfBounds("no paper", () -> x.alarm(0, 0));
        land.taken(0, 1, 2);
        Check.outOfBounds("nobody", () -> x.alarm(0, 10));
        Check.unsupported("no report", () -> x.alarm(0, 1));
        land.score(0, 60, 1, 2);
        String before = land.file(0);
        Check.due("none yet", x.alarm(0, 1), true);
        Check.due("one already", x.alarm(0, 1), false);
        Check.due("no letter", land.file(0), before);
        x.revise(0, 1);
        Check.unsupported("in state d", () -> x.alarm(0, 2));
        x.sign(0, 0);
        Check.due("a committee decides", x.decide(0), 'k');
        Check.unsupported("in state k", () -> x.alarm(0, 2));
    }

    private static void firstPerson() {
        Land land = new Land(9);
        Refereehall x = land.x;
        land.assigned(1);
        Check.due("person 0", x.invite(0, 1), 1);
        Check.due("asked", x.invitation(0, 0), 'o');
        Check.due("lapses", x.goOn(15), 1);
        land.assigned(1);
        x.invite(1, 3);
        Check.due("takes one", x.answer(1, 0, true), 1);
        x.answer(1, 2, true);
        x.report(1, 0, 80, 0, false);
        Check.due("mean", x.meanScore(), 80.0);
        x.report(1, 2, 60, 0, false);
        Check.due("mean of both", x.meanScore(), 70.0);
        x.setRules(0, 2, 100, 100, 's');
        x.decide(1);
        x.appeal(1);
        Check.due("asked no more", x.invitation(1, 0), '-');
    }

    private static void laterReport() {
        Land land = new Land(9);
        Refereehall x = land.x;
        x.addEditor(8, 1);
        land.taken(0, 1, 2);
        x.report(0, 1, 10, 2, true);
        x.report(0, 2, 10, 2, false);
        x.setRules(0, 2, 100, 100, 's');
        x.decide(0);
        Check.due("one counts on", x.transfer(0, 1), 1);
        Check.due("its points too", x.openPoints(0), 2);
        Check.due("nobody was asked", x.invitation(0, 1), '-');
        x.revise(0, 1);
        x.sign(0, 0);
        x.assign(0);
        x.invite(0, 1);
        Check.due("asked anew", x.answer(0, 1, true), 1);
        Check.due("both count", x.report(0, 1, 30, 1, true), 2);
        Check.due("the later one is meant", x.evened(0, 1), 60);
        Check.due("points of both", x.openPoints(0), 3);
        Check.unsupported("the later one has no later version", () -> x.meet(0, 1, 0));
        x.revise(0, 1);
        Check.noElement("the later one has no such point", () -> x.meet(0, 1, 1));
        Check.due("met", x.meet(0, 1, 0), 2);
        Check.noElement("no other report", () -> x.evened(0, 2));
    }
}
