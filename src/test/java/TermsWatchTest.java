/** The sentences of the terms on equal papers, committees and sight that name a boundary, each with its own test. */
public final class TermsWatchTest {
    public static void main(String[] args) {
        hasAPriority();
        aLesserPriority();
        orThePaperHasNone();
        likenessOfEighty();
        noAuthorInCommon();
        notWithdrawnOrRetracted();
        doesNotCiteIt();
        threeMembers();
        membersAreEditorsOfAnyField();
        membersAreNotAway();
        membersWithoutConflict();
        membersWithoutConflictWithEachOther();
        membersWereNotEditors();
        membersDidNotReport();
        leastDistanceFirst();
        sitsFor();
        overWithTheSecondVote();
        overAsItIsWithdrawnOrRetracted();
        whatConfirmingMakes();
        whatDenyingMakes();
        cannotVote();
        anotherCommittee();
        complaints();
        everybodySees();
        editorAndCommitteeSeeAll();
        authorsSee();
        refereesSee();
        doubleBlind();
        openField();
        ownRole();
        Check.end();
    }

    private static String equal(Refereehall x, int paper) {
        return String.valueOf(Calls.make(x, "equalTo", paper));
    }

    private static final String NONE = "throws.NoSuchElementException";
    private static final String REFUSED = "throws.UnsupportedOperationException";

    // ---- equal papers

    /** "if it has a priority" */
    private static void hasAPriority() {
        Land land = new Land(9);
        Refereehall x = land.x;
        land.signed(0);
        int accepted = land.accepted(3, 1, 2);
        land.signed(4);
        Check.due("none has one", equal(x, 2), NONE);
        x.publish(accepted);
        Check.due("published", equal(x, 2), "1");
        x.showAhead(0);
        Check.due("shown ahead", equal(x, 2), "0");
        Check.due("not to itself, nor one of a higher number on the same day", equal(x, 0), NONE);
    }

    /** "a lesser one, or the same and a lower number" */
    private static void aLesserPriority() {
        Land land = new Land();
        Refereehall x = land.x;
        for (int i = 0; i < 4; i++) {
            land.signed(i);
        }
        x.goOn(7);
        x.showAhead(1);
        x.showAhead(2);
        Check.due("the same, the lower number", equal(x, 1), NONE);
        Check.due("the same, the higher number", equal(x, 2), "1");
        x.goOn(1);
        x.showAhead(0);
        Check.due("a greater one, though the lowest number", equal(x, 1), NONE);
        Check.due("the greater one to a lesser one", equal(x, 0), "1");
        x.showAhead(3);
        Check.due("the lowest of three", equal(x, 3), "0");
    }

    /** "or the paper has none" */
    private static void orThePaperHasNone() {
        Land land = new Land();
        Refereehall x = land.x;
        land.signed(0);
        land.signed(1);
        x.goOn(50);
        x.showAhead(1);
        Check.due("without one", equal(x, 0), "1");
        x.showAhead(0);
        Check.due("with the same, the lower number", equal(x, 0), NONE);
        Check.due("with the same, the higher number", equal(x, 1), "0");
    }

    /** "the likeness of both is 80 or more" */
    private static void likenessOfEighty() {
        int twenty = 1048575;
        int[][] pairs = {{31, 15, 80}, {twenty, twenty >> 4, 80}, {twenty, twenty >> 5, 75}, {16383, 2047, 78},
            {twenty >> 1, 65535, 84}, {524287, 32767, 78}, {7, 3, 66}, {1, 1, 100}, {0, 0, 0}, {1, 2, 0}};
        for (int[] pair : pairs) {
            Land land = new Land();
            Refereehall x = land.x;
            land.signed(0, 0, pair[0]);
            land.signed(1, 6, pair[1]);
            x.showAhead(0);
            Check.due("the likeness", x.likeness(0, 1), pair[2]);
            Check.due("the likeness back", x.likeness(1, 0), pair[2]);
            Check.due("with a likeness of " + pair[2], equal(x, 1), pair[2] >= 80 ? "0" : NONE);
        }
    }

    /** "they have no author in common, of any version" */
    private static void noAuthorInCommon() {
        Land land = new Land();
        Refereehall x = land.x;
        land.withOneGone(0, 1);
        x.showAhead(0);
        for (int author = 0; author < 4; author++) {
            int paper = land.signed(author);
            Check.due("of the author " + author, equal(x, paper), author < 2 ? NONE : "0");
        }
        land.withOneGone(2, 1);
        Check.due("one who was an author of both", equal(x, 5), NONE);
        land.withOneGone(2, 3);
        Check.due("nobody", equal(x, 6), "0");
    }

    /** "it is not withdrawn or retracted" */
    private static void notWithdrawnOrRetracted() {
        for (char state : "deqkaxpwt".toCharArray()) {
            Refereehall x = shownStage(state);
            int paper = x.begin(7, 5, 1);
            Check.due("in state " + state, equal(x, paper), state == 'w' || state == 't' ? NONE : "0");
        }
    }

    /** The stage, but shown ahead if it is not published. */
    private static Refereehall shownStage(char state) {
        if (state == 'p' || state == 't' || state == 'e') {
            Refereehall x = Stage.at(state);
            if (state == 'e') {
                x.showAhead(0);
            }
            return x;
        }
        Refereehall x = Stage.at('e');
        x.showAhead(0);
        if (state == 'd') {
            x.revise(0, 1);
        } else if (state == 'w') {
            x.withdraw(0);
        } else {
            if (state == 'k') {
                x.alarm(0, 1);
            } else if (state == 'a') {
                x.meet(0, 1, 0);
            } else if (state == 'x') {
                x.setRules(0, 2, 100, 100, 's');
            }
            x.decide(0);
        }
        Check.due("the state", x.state(0), state);
        return x;
    }

    /** "and the paper does not cite it" */
    private static void doesNotCiteIt() {
        Land land = new Land();
        Refereehall x = land.x;
        for (int i = 0; i < 3; i++) {
            land.signed(i);
        }
        x.showAhead(0);
        x.showAhead(1);
        x.cite(2, 0);
        Check.due("another one than the cited", equal(x, 2), "1");
        x.cite(2, 1);
        Check.due("both cited", equal(x, 2), NONE);
        x.dropCitation(2, 0);
        Check.due("cited no more", equal(x, 2), "0");
        x.cite(0, 1);
        x.cite(0, 2);
        Check.due("cited by it", equal(x, 2), "0");
    }

    // ---- committees

    /** A stage in state k: persons 5, 6, 7 are editors of field 3, 8 of field 1, which is tied to that of the paper. */
    private static Refereehall judged() {
        return Stage.at('k');
    }

    private static String seated(Refereehall x) {
        return String.valueOf(Calls.make(x, "seat", 0));
    }

    private static String sum(int... members) {
        int sum = 0;
        for (int member : members) {
            sum += 1 << member;
        }
        return String.valueOf(sum);
    }

    /** "A committee has three members" */
    private static void threeMembers() {
        Refereehall x = judged();
        x.sendAway(8, 1);
        Check.due("three of three", seated(x), sum(5, 6, 7));
        Refereehall y = judged();
        y.sendAway(8, 1);
        y.sendAway(7, 1);
        Check.due("two are too few", seated(y), NONE);
        Refereehall z = judged();
        Check.due("three of four", seated(z), sum(8, 5, 6));
    }

    /** "people who are editors of any field" */
    private static void membersAreEditorsOfAnyField() {
        Refereehall x = judged();
        x.sendAway(8, 1);
        x.sendAway(7, 1);
        Check.due("person 4 is none", seated(x), NONE);
        x.addPerson(0, 0);
        int next = x.addPerson(4, 0);
        x.addEditor(next, 7);
        Check.due("of the field 7", seated(x), sum(5, 6, next));
    }

    /** "not away" */
    private static void membersAreNotAway() {
        Refereehall x = judged();
        x.sendAway(5, 2);
        x.sendAway(6, 1);
        x.goOn(1);
        Check.due("away to this day, and to the day ahead", seated(x), sum(6, 7, 8));
    }

    /** "without a conflict with anybody who is or was an author" */
    private static void membersWithoutConflict() {
        Land land = new Land(9);
        Refereehall x = land.x;
        land.withOneGone(0, 3);
        x.assign(0);
        land.take(0, 1, 2);
        land.score(0, 60, 1, 2);
        x.alarm(0, 1);
        x.decide(0);
        for (int i = 3; i < 9; i++) {
            x.addEditor(i, 0);
        }
        x.tellConflict(4, 0);
        x.tellMoney(5, 3, 1);
        Check.due("neither who was one, nor who is bound to an author", seated(x), sum(6, 7, 8));
    }

    /** "nor with each other ... the first, then the next who has no conflict with those taken" */
    private static void membersWithoutConflictWithEachOther() {
        Refereehall x = judged();
        x.tellConflict(8, 5);
        Check.due("the first, not the second", seated(x), sum(8, 6, 7));
        Refereehall y = judged();
        y.tellConflict(5, 6);
        Check.due("the second, not the third", seated(y), sum(8, 5, 7));
        Refereehall z = judged();
        z.tellConflict(8, 5);
        z.tellConflict(8, 6);
        Check.due("5, 6 and 7 would do, but 8 is the first", seated(z), NONE);
    }

    /** "who are not and were not the editor of the paper" */
    private static void membersWereNotEditors() {
        Refereehall x = judged();
        x.addEditor(9, 3);
        x.sendAway(7, 1);
        Check.due("not the editor", seated(x), sum(5, 6, 8));
        Refereehall y = Stage.at('x');
        y.transfer(0, 1);
        Check.due("another editor", y.assign(0), 8);
        y.alarm(0, 1);
        y.decide(0);
        y.addEditor(0, 1);
        Check.due("neither the elder nor the later one", seated(y), sum(5, 6, 7));
    }

    /** "and did not report on it" */
    private static void membersDidNotReport() {
        Refereehall x = judged();
        x.addEditor(1, 0);
        x.addEditor(2, 0);
        x.addEditor(4, 0);
        Check.due("who took one alone can", seated(x), sum(4, 8, 5));
        Refereehall y = Stage.at('x');
        y.appeal(0);
        y.assign(0);
        y.invite(0, 5);
        y.answer(0, 4, true);
        y.answer(0, 5, true);
        y.report(0, 4, 60, 0, true);
        y.report(0, 5, 60, 0, true);
        y.alarm(0, 4);
        Check.due("a committee", y.decide(0), 'k');
        y.addEditor(1, 0);
        y.addEditor(2, 0);
        Check.due("not 1 and 2 either, whose reports count no more", seated(y), NONE);
    }

    /** "those of the least distance ..., those without any way behind all others, then the lowest ones" */
    private static void leastDistanceFirst() {
        Refereehall x = judged();
        Check.due("one tie, then no way", seated(x), sum(8, 5, 6));
        Refereehall y = judged();
        y.addEditor(7, 0);
        y.addEditor(4, 2);
        Check.due("none, one, then no way, the lowest", seated(y), sum(7, 8, 4));
        Refereehall z = judged();
        z.tie(1, 2);
        z.tie(2, 4);
        z.tie(4, 5);
        z.tie(5, 6);
        z.tie(6, 7);
        z.addEditor(6, 7);
        z.addEditor(7, 6);
        Check.due("the farthest way is ahead of no way", seated(z), sum(8, 7, 6));
    }

    /** "It sits for a paper in the state k, or for a published one of which somebody complained." */
    private static void sitsFor() {
        for (char state : Stage.STATES.toCharArray()) {
            Check.due("in state " + state, seated(Stage.at(state)), state == 'k' ? sum(5, 6, 8) : REFUSED);
        }
        Refereehall x = Stage.at('p');
        x.complain(0, 4);
        Check.due("complained of", seated(x), sum(5, 6, 8));
    }

    /** "It is over with the second vote for the same." */
    private static void overWithTheSecondVote() {
        for (int votes = 0; votes < 8; votes++) {
            Refereehall x = judged();
            x.seat(0);
            int[] members = {5, 6, 8};
            int confirmed = 0;
            int denied = 0;
            String answers = "";
            for (int i = 0; i < 3 && confirmed < 2 && denied < 2; i++) {
                boolean confirms = (votes >> i & 1) != 0;
                confirmed += confirms ? 1 : 0;
                denied += confirms ? 0 : 1;
                answers += x.vote(0, members[i], confirms);
            }
            String due = (confirmed + denied == 2 ? "o" : "oo") + (confirmed == 2 ? 'c' : 'd');
            Check.due("votes " + Integer.toBinaryString(votes), answers, due);
            Check.due("over", Calls.make(x, "vote", 0, 8, true), REFUSED);
        }
    }

    /** "A committee is over, too, as its paper is withdrawn or retracted." */
    private static void overAsItIsWithdrawnOrRetracted() {
        Refereehall x = judged();
        x.seat(0);
        x.vote(0, 5, true);
        x.withdraw(0);
        Check.unsupported("a vote on a withdrawn paper", () -> x.vote(0, 6, true));
        Check.due("no role", x.sees(8, 0, 8), false);
        Refereehall y = Stage.at('p');
        y.complain(0, 4);
        y.seat(0);
        y.vote(0, 5, false);
        y.retract(0);
        Check.unsupported("a vote on a retracted paper", () -> y.vote(0, 6, false));
        Check.due("no role there", y.sees(8, 0, 8), false);
        Check.unsupported("nor another committee", () -> y.seat(0));
    }

    private static Refereehall over(char state, boolean confirms) {
        Refereehall x = Stage.at(state);
        if (state == 'p') {
            x.complain(0, 4);
        }
        x.seat(0);
        x.vote(0, 5, confirms);
        x.vote(0, 8, confirms);
        return x;
    }

    private static String end(Refereehall x, int many) {
        String text = "";
        for (int i = x.letters(0) - many; i < x.letters(0); i++) {
            text += x.letter(0, i);
        }
        return text;
    }

    /** "Confirming makes of a paper in the state k one in the state e, and retracts a published one" */
    private static void whatConfirmingMakes() {
        Refereehall x = over('k', true);
        Check.due("of one in the state k", x.state(0), 'e');
        Check.due("letters", end(x, 5), "KuccV");
        Check.due("sound", x.isSound(), true);
        Refereehall y = over('p', true);
        Check.due("of a published one", y.state(0), 't');
        Check.due("letters", end(y, 6), "juccVR");
        Check.due("sound, too", y.isSound(), true);
    }

    /** "denying makes of the former one in the state x, and of the latter nothing; the complaint is over, too" */
    private static void whatDenyingMakes() {
        Refereehall x = over('k', false);
        Check.due("of one in the state k", x.state(0), 'x');
        Check.due("letters", end(x, 5), "KuccD");
        Check.due("it can be appealed", x.appeal(0), 2);
        Refereehall y = over('p', false);
        Check.due("of a published one", y.state(0), 'p');
        Check.due("letters", end(y, 5), "juccD");
        Check.unsupported("no complaint waits", () -> y.seat(0));
        Check.due("another one can", y.complain(0, 4), 2);
        Check.due("and be judged", seated(y), sum(5, 6, 8));
    }

    /** "A member who has a conflict with anybody who is or was an author by then cannot vote" */
    private static void cannotVote() {
        Refereehall x = judged();
        x.seat(0);
        x.tellMoney(5, 3, 2);
        Check.unsupported("on the first day", () -> x.vote(0, 5, true));
        x.goOn(1);
        Check.unsupported("on the last day", () -> x.vote(0, 5, false));
        x.goOn(1);
        Check.due("behind it", x.vote(0, 5, true), 'o');
        x.sendAway(6, 9);
        Check.due("who is away can", x.vote(0, 6, false), 'o');
        x.tellConflict(8, 6);
        x.tellConflict(8, 9);
        Check.due("bound to members and the editor", x.vote(0, 8, true), 'c');
    }

    /** "if there is such a one who has not voted, another committee can be seated in its place, without votes" */
    private static void anotherCommittee() {
        Refereehall x = judged();
        x.seat(0);
        Check.due("nobody is", seated(x), REFUSED);
        x.vote(0, 5, true);
        x.tellConflict(5, 0);
        Check.due("who has voted is none", seated(x), REFUSED);
        x.tellMoney(8, 0, 1);
        x.addEditor(4, 7);
        Check.due("in its place", seated(x), sum(4, 6, 7));
        Check.due("nobody is any more", seated(x), REFUSED);
        Check.due("the first vote", x.vote(0, 6, true), 'o');
        Check.unsupported("who voted in the elder one", () -> x.vote(0, 5, true));
        Check.due("the second vote", x.vote(0, 4, true), 'c');
    }

    /** "a complaint waits, or the person is or was an author" */
    private static void complaints() {
        Land land = new Land(9);
        Refereehall x = land.x;
        land.withOneGone(0, 3);
        x.assign(0);
        land.take(0, 1, 2);
        land.score(0, 60, 1, 2);
        x.decide(0);
        x.publish(0);
        Check.unsupported("who is an author", () -> x.complain(0, 0));
        Check.unsupported("who was one", () -> x.complain(0, 3));
        Check.due("a referee", x.complain(0, 1), 1);
        Check.unsupported("as one waits", () -> x.complain(0, 2));
    }

    // ---- sight

    private static String seen(Refereehall x, int viewer) {
        String all = "";
        for (int i = 0; i < 10; i++) {
            all += x.sees(viewer, 0, i) ? i : "";
        }
        return all;
    }

    /** "everybody sees the authors of a published or retracted paper, and of one that was shown ahead" */
    private static void everybodySees() {
        for (char state : Stage.STATES.toCharArray()) {
            Refereehall x = Stage.at(state);
            int other = x.addPerson(7, 1);
            Check.due("in state " + state, seen(x, other), state == 'p' || state == 't' ? "03" : "");
        }
        for (char state : "deqkaxw".toCharArray()) {
            Refereehall x = shownStage(state);
            int other = x.addPerson(7, 1);
            Check.due("shown ahead, in state " + state, seen(x, other), "03");
        }
    }

    /** "editors and members of its committee see all" */
    private static void editorAndCommitteeSeeAll() {
        Refereehall x = judged();
        Check.due("the editor", seen(x, 9), "01234569");
        Check.due("an editor of a field", seen(x, 8), "");
        x.seat(0);
        Check.due("the editor sees the committee", seen(x, 9), "012345689");
        Check.due("a member", seen(x, 8), "012345689");
        Check.due("nobody else sees the committee", seen(x, 0), "039");
    }

    /** "an author sees the other authors, and the editor, authors of any version being meant throughout" */
    private static void authorsSee() {
        Land land = new Land(9);
        Refereehall x = land.x;
        land.withOneGone(0, 3);
        Check.due("without an editor", seen(x, 0), "03");
        x.assign(0);
        Check.due("who is one", seen(x, 0), "039");
        Check.due("who was one", seen(x, 3), "039");
    }

    /** "a referee, who was asked since there is this editor, or has a report that counts, sees the editor, and ..." */
    private static void refereesSee() {
        Refereehall x = Stage.at('e');
        Check.due("with a report", seen(x, 1), "0139");
        Check.due("who took one", seen(x, 4), "0349");
        Check.due("with an open one", seen(x, 5), "0359");
        x.answer(0, 5, false);
        Check.due("who refused", seen(x, 5), "0359");
        x.goOn(15);
        Check.due("whose invitation lapsed", seen(x, 6), "0369");
        Check.due("who was not asked", seen(x, 7), "");
        Refereehall y = Stage.at('s');
        Check.due("with a report that counts, without an editor", seen(y, 1), "013");
        Check.due("asked by an elder editor", seen(y, 4), "");
        y.assign(0);
        Check.due("with a report that counts, and a later editor", seen(y, 1), "0138");
        Check.due("still none", seen(y, 4), "");
        Check.due("the elder editor", seen(y, 9), "");
    }

    /** "and, unless the field is double blind, the authors" */
    private static void doubleBlind() {
        Refereehall x = Stage.at('e');
        x.setRules(0, 2, 50, 35, 'd');
        Check.due("with a report", seen(x, 1), "19");
        Check.due("with an open one", seen(x, 5), "59");
        Check.due("an author", seen(x, 0), "039");
        x.setRules(0, 2, 50, 35, 's');
        Check.due("single blind", seen(x, 1), "0139");
        Refereehall y = Stage.at('p');
        y.setRules(0, 2, 50, 35, 'd');
        Check.due("published", seen(y, 1), "0139");
    }

    /** "authors see referees with a report that counts, and referees see each other, if both have one, if ... open" */
    private static void openField() {
        Refereehall x = Stage.at('e');
        x.setRules(0, 2, 50, 35, 'o');
        Check.due("an author", seen(x, 3), "01239");
        Check.due("a referee with a report", seen(x, 2), "01239");
        Check.due("a referee without a report", seen(x, 4), "0349");
        x.report(0, 4, 50, 0, false);
        Check.due("with a report now", seen(x, 4), "012349");
        x.setRules(1, 2, 50, 35, 'o');
        x.setRules(0, 2, 100, 100, 'o');
        x.decide(0);
        x.transfer(0, 1);
        Check.due("whose reports count on", seen(x, 0), "0123");
        Check.due("each other", seen(x, 1), "0123");
        Check.due("whose report does not", seen(x, 4), "");
    }

    /** "Each sees their own role. Others see nothing." */
    private static void ownRole() {
        Refereehall x = judged();
        for (int i = 0; i < 10; i++) {
            Check.due("oneself, person " + i, x.sees(i, 0, i), "0123456".indexOf('0' + i) >= 0 || i == 9);
        }
        x.seat(0);
        Check.due("a member", x.sees(8, 0, 8), true);
        Check.due("no member", x.sees(7, 0, 7), false);
        Check.due("others see nothing", seen(x, 7), "");
    }
}
