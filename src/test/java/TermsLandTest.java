/** The sentences of the terms on people, fields, papers and editors that name a boundary, each with its own test. */
public final class TermsLandTest {
    public static void main(String[] args) {
        numbersOfPeople();
        wordsOfPeople();
        theSame();
        oneHouse();
        houseOfTheLastDays();
        houseLeftTwice();
        kinStays();
        moneyEnds();
        moneyInPlace();
        authorsOfOneVersion();
        awayUpToADay();
        rulesAtFirst();
        distances();
        editorsOfManyFields();
        numbersOfPapers();
        oneToSixAuthors();
        atMostSixVersions();
        signedByAll();
        signedByThoseOfTheVersionAhead();
        signaturesTakenAway();
        draftUnlessPublished();
        stateAsItGetsSigned();
        distanceOfTheEditor();
        editorAway();
        editorInConflict();
        fewerThanThree();
        whichStatesCount();
        whoRejectedIt();
        firstTheDistance();
        Check.end();
    }

    // ---- people

    /** "At most 20 are numbered from 0" */
    private static void numbersOfPeople() {
        Refereehall x = Check.watch(new Refereehall());
        for (int i = 0; i < 20; i++) {
            Check.due("the number of the next one", x.addPerson(i % 10, 1 << i), i);
        }
        Check.badState("one more than 20", () -> x.addPerson(0, 0));
        Check.due("the last one is there", x.haveConflict(19, 9), true);
        Check.outOfBounds("the next one is not", () -> x.haveConflict(20, 20));
    }

    /** "words, the sum of 2 to the power of some of the numbers 0 to 19" */
    private static void wordsOfPeople() {
        Refereehall x = Check.watch(new Refereehall());
        x.addPerson(0, 0);
        x.addPerson(1, 0);
        x.addPerson(2, 1048575 - 1 - 524288);
        x.addPerson(3, 524288);
        x.addPerson(4, 1);
        x.addPerson(5, 0);
        x.addEditor(1, 0);
        x.begin(0, 0, 524288 + 1);
        x.sign(0, 0);
        x.assign(0);
        Check.due("with the word 0 or 19", x.invite(0, 5), 2);
        Check.due("the word 19", x.invitation(0, 3), 'o');
        Check.due("the word 0", x.invitation(0, 4), 'o');
        Check.due("all words but these", x.invitation(0, 2), '-');
    }

    /** "Two people have a conflict if they are the same" */
    private static void theSame() {
        Refereehall x = new Land().x;
        for (int i = 0; i < 10; i++) {
            for (int j = 0; j < 10; j++) {
                Check.due("the same or not", x.haveConflict(i, j), i == j);
            }
        }
    }

    /** "are of one house" */
    private static void oneHouse() {
        Refereehall x = new Land().x;
        x.addPerson(0, 0);
        x.addPerson(9, 0);
        Check.due("house 0", x.haveConflict(10, 0), true);
        Check.due("house 9", x.haveConflict(9, 11), true);
        Check.due("houses 0 and 9", x.haveConflict(10, 11), false);
        x.goOn(99);
        Check.due("as long as they are there", x.haveConflict(0, 10), true);
    }

    /** "one is of a house of which the other one was in the last 60 days, this one included" */
    private static void houseOfTheLastDays() {
        for (int days = 57; days < 63; days++) {
            Refereehall x = new Land().x;
            x.goOn(40);
            x.addPerson(1, 0);
            x.move(10, 0);
            x.goOn(days);
            Check.due("left so many days ago: " + days, x.haveConflict(10, 1), days < 60);
            Check.due("the other way, days: " + days, x.haveConflict(1, 10), days < 60);
            Check.due("of the house where one is", x.haveConflict(10, 0), true);
            Check.due("of a house where one never was", x.haveConflict(10, 2), false);
        }
    }

    /** The day on which a house was left last is meant. */
    private static void houseLeftTwice() {
        Refereehall x = new Land().x;
        x.move(0, 5);
        x.goOn(30);
        x.move(0, 0);
        x.goOn(20);
        x.move(0, 6);
        x.addPerson(0, 0);
        x.goOn(10);
        Check.due("house 0, left 60 and 10 days ago", x.haveConflict(0, 10), true);
        Check.due("house 5, left 40 days ago", x.haveConflict(0, 5), true);
        x.goOn(30);
        Check.due("house 5, left 70 days ago", x.haveConflict(0, 5), false);
        x.goOn(19);
        Check.due("house 0, left 59 days ago", x.haveConflict(0, 10), true);
        x.goOn(1);
        Check.due("house 0, left 60 days ago", x.haveConflict(0, 10), false);
        Check.due("house 6", x.haveConflict(0, 6), true);
    }

    /** "it was told as kin, which stays" */
    private static void kinStays() {
        Refereehall x = new Land().x;
        x.tellConflict(2, 3);
        for (int i = 0; i < 40; i++) {
            x.goOn(99);
        }
        x.move(2, 8);
        Check.due("after thousands of days", x.haveConflict(3, 2), true);
    }

    /** "or as money, which ends on a day" */
    private static void moneyEnds() {
        for (int days : new int[] {1, 2, 99}) {
            Refereehall x = new Land().x;
            x.goOn(3);
            Check.due("the last day", x.tellMoney(0, 1, days), 3 + days - 1);
            Check.due("from this day on", x.haveConflict(0, 1), true);
            if (days > 1) {
                x.goOn(days - 1);
                Check.due("on the last day", x.haveConflict(1, 0), true);
            }
            x.goOn(1);
            Check.due("on the day behind it", x.haveConflict(0, 1), false);
        }
    }

    /** "in place of what was told so of them" */
    private static void moneyInPlace() {
        Refereehall x = new Land().x;
        x.tellMoney(0, 1, 999);
        Check.due("a shorter one", x.tellMoney(1, 0, 1), 0);
        x.tellMoney(2, 3, 1);
        Check.due("a longer one", x.tellMoney(2, 3, 2), 1);
        x.tellConflict(4, 5);
        x.tellMoney(4, 5, 1);
        x.goOn(1);
        Check.due("the shorter one holds", x.haveConflict(0, 1), false);
        Check.due("the longer one holds", x.haveConflict(2, 3), true);
        Check.due("kin is not what was told so", x.haveConflict(4, 5), true);
    }

    /** "both are authors of one version of a paper, an elder one too, signed or not" */
    private static void authorsOfOneVersion() {
        Land land = new Land();
        Refereehall x = land.x;
        x.begin(0, 0, 1);
        x.begin(1, 0, 1);
        Check.due("of two papers", x.haveConflict(0, 1), false);
        x.addAuthor(0, 1);
        Check.due("of one that is not signed", x.haveConflict(0, 1), true);
        land.withOneGone(2, 3);
        Check.due("of an elder one", x.haveConflict(2, 3), true);
        x.revise(2, 1);
        x.addAuthor(2, 4);
        Check.due("with an author of the last one alone", x.haveConflict(2, 4), true);
        Check.due("of two versions, but not of one", x.haveConflict(3, 4), false);
        x.goOn(99);
        Check.due("for good", x.haveConflict(3, 2), true);
    }

    /** "A person can be away up to a day, this one included", and "0 for none any more" */
    private static void awayUpToADay() {
        Land land = new Land(9);
        Refereehall x = land.x;
        land.assigned(0);
        Check.due("the last day", x.sendAway(1, 99), 98);
        for (int i = 2; i < 9; i++) {
            x.sendAway(i, 99);
        }
        x.goOn(98);
        Check.due("on the last day", x.invite(0, 5), 0);
        x.goOn(1);
        Check.due("a day later", x.invite(0, 1), 1);
        Check.due("the lowest one", x.invitation(0, 1), 'o');
        for (int i = 2; i < 9; i++) {
            x.sendAway(i, 1);
        }
        Check.due("for this day", x.invite(0, 5), 0);
        Check.due("not any more", x.sendAway(5, 0), 98);
        Check.due("that one alone", x.invite(0, 5), 1);
        Check.due("is asked", x.invitation(0, 5), 'o');
    }

    // ---- fields

    /** "2 at first, ... 50 at first, ... 35 at first, and ... single 's', as at first" */
    private static void rulesAtFirst() {
        for (int field = 0; field < 8; field++) {
            Refereehall x = new Land().x;
            Check.due("field " + field, x.setRules(field, 2, 50, 35, 'o'), 's');
        }
        Check.due("a mean of 50", decidedIn(7, 60), 'a');
        Check.due("a mean of 49", decidedIn(7, 58), 'q');
        Check.due("a mean of 35", decidedIn(7, 30), 'q');
        Check.due("a mean of 34", decidedIn(7, 28), 'x');
    }

    /** Two reports in a field whose rules are those at first; both have given 60 elsewhere. */
    private static char decidedIn(int field, int score) {
        Land land = new Land();
        Refereehall x = land.x;
        x.addEditor(9, field);
        for (int i = 0; i < 2; i++) {
            land.signed(0, field, 1);
            x.assign(i);
            land.take(i, 1, 2);
        }
        land.score(1, 60, 1, 2);
        land.score(0, score, 1);
        Check.unsupported("one of two", () -> x.decide(0));
        land.score(0, score, 2);
        return x.decide(0);
    }

    /** "The distance of two is the fewest ties between them." */
    private static void distances() {
        Refereehall x = new Land().x;
        x.tie(0, 1);
        x.tie(1, 2);
        x.tie(2, 3);
        x.tie(7, 6);
        for (int i = 0; i < 4; i++) {
            for (int j = 0; j < 4; j++) {
                Check.due("along the ties", x.distance(i, j), Math.abs(i - j));
            }
            Check.due("without any way", x.distance(i, 6), -1);
            Check.due("without any way back", x.distance(7, i), -1);
            Check.due("of one that is not tied", x.distance(5, i), -1);
        }
        x.tie(3, 0);
        Check.due("the shorter way", x.distance(0, 3), 1);
        Check.due("two ways", x.distance(0, 2), 2);
        x.tie(6, 3);
        Check.due("the farthest", x.distance(7, 1), 4);
        Check.due("itself", x.distance(5, 5), 0);
    }

    /** "People can be editors of fields." */
    private static void editorsOfManyFields() {
        Refereehall x = new Land().x;
        for (int field = 0; field < 8; field++) {
            Check.due("of so many fields", x.addEditor(3, field), field + 1);
        }
        Check.due("again", x.addEditor(3, 4), 8);
        Check.due("another one", x.addEditor(4, 4), 1);
    }

    // ---- papers

    /** "At most 12 are numbered from 0" */
    private static void numbersOfPapers() {
        Refereehall x = new Land().x;
        for (int i = 0; i < 12; i++) {
            Check.due("the number of the next one", x.begin(i % 10, i % 8, i), i);
        }
        Check.badState("one more than 12", () -> x.begin(0, 0, 0));
        x.withdraw(0);
        Check.badState("nor in place of a withdrawn one", () -> x.begin(0, 0, 0));
    }

    /** "a version has 1 to 6 authors" */
    private static void oneToSixAuthors() {
        Refereehall x = new Land().x;
        x.begin(9, 0, 1);
        Check.unsupported("none", () -> x.dropAuthor(0, 9));
        for (int i = 0; i < 5; i++) {
            Check.due("so many", x.addAuthor(0, i), i + 2);
        }
        Check.unsupported("seven", () -> x.addAuthor(0, 5));
        for (int i = 0; i < 5; i++) {
            Check.due("so few", x.dropAuthor(0, i), 5 - i);
        }
        Check.unsupported("none again", () -> x.dropAuthor(0, 9));
    }

    /** "versions, numbered from 0, at most 6" */
    private static void atMostSixVersions() {
        Land land = new Land(9);
        Refereehall x = land.x;
        land.signed(0);
        for (int i = 1; i < 6; i++) {
            Check.due("the number of the version", x.revise(0, 1), i);
            x.sign(0, 0);
        }
        Check.unsupported("a 7th in state s", () -> x.revise(0, 1));
        x.assign(0);
        Check.unsupported("a 7th in state e", () -> x.revise(0, 1));
    }

    /** "It is signed when all of its authors have signed it" */
    private static void signedByAll() {
        Refereehall x = new Land().x;
        x.begin(0, 0, 1);
        for (int i = 1; i < 6; i++) {
            x.addAuthor(0, i);
        }
        for (int i = 5; i > 0; i--) {
            Check.due("not all yet", x.sign(0, i), false);
            Check.due("a draft still", x.state(0), 'd');
        }
        Check.due("all six", x.sign(0, 0), true);
        Check.due("signed", x.state(0), 's');
    }

    /** "and those of the version ahead who are none of it any more" */
    private static void signedByThoseOfTheVersionAhead() {
        Land land = new Land();
        Refereehall x = land.x;
        land.withOneGone(0, 1);
        x.revise(0, 1);
        x.addAuthor(0, 1);
        Check.due("one of two", x.sign(0, 0), false);
        Check.due("who is one again signs once", x.sign(0, 1), true);
        x.revise(0, 1);
        x.dropAuthor(0, 0);
        Check.due("the one who stays", x.sign(0, 1), false);
        Check.unsupported("signed already", () -> x.sign(0, 1));
        Check.due("the one who goes", x.sign(0, 0), true);
        x.revise(0, 1);
        Check.unsupported("who was one two versions ahead", () -> x.sign(0, 0));
        x.addAuthor(0, 2);
        x.dropAuthor(0, 2);
        Check.unsupported("who was added and dropped in between", () -> x.sign(0, 2));
        Check.due("the only one", x.sign(0, 1), true);
    }

    /** "A change of its authors takes all signatures away." */
    private static void signaturesTakenAway() {
        Land land = new Land();
        Refereehall x = land.x;
        x.begin(0, 0, 1);
        x.addAuthor(0, 1);
        x.sign(0, 0);
        x.sign(0, 1);
        x.revise(0, 1);
        x.dropAuthor(0, 1);
        x.sign(0, 1);
        x.addAuthor(0, 2);
        x.sign(0, 0);
        Check.due("not without the one who is gone", x.sign(0, 2), false);
        Check.due("who signs again", x.sign(0, 1), true);
        x.revise(0, 1);
        x.sign(0, 0);
        x.dropAuthor(0, 2);
        x.sign(0, 2);
        Check.due("the signature ahead of the change is away", x.sign(0, 0), true);
        Check.due("letters", land.file(0), "b+yySv-y+yyySvy-yyS");
    }

    // ---- the state

    /** "'d' as its last version is not signed, unless it is published" */
    private static void draftUnlessPublished() {
        Refereehall x = Stage.at('p');
        x.correct(0, 1);
        Check.due("published, with a version that is not signed", x.state(0), 'p');
        x.sign(0, 0);
        Check.due("half signed", x.state(0), 'p');
        x.sign(0, 3);
        Check.due("signed", x.state(0), 'p');
    }

    /** "As a version gets signed, the state becomes 'e' if the paper has an editor, otherwise 's'." */
    private static void stateAsItGetsSigned() {
        for (char state : "seqd".toCharArray()) {
            Refereehall x = Stage.at(state);
            if (state != 'd') {
                x.revise(0, 1);
            }
            x.sign(0, 0);
            Check.due("half signed", x.state(0), 'd');
            x.sign(0, 3);
            Check.due("signed", x.state(0), state == 's' ? 's' : 'e');
        }
    }

    // ---- editors

    /** "an editor of a field that has at most the distance 1 from that of the paper" */
    private static void distanceOfTheEditor() {
        Land land = new Land();
        Refereehall x = land.x;
        x.tie(0, 1);
        x.tie(1, 2);
        x.addEditor(5, 2);
        x.addEditor(6, 7);
        land.signed(0);
        Check.noElement("the distance 2, or no way", () -> x.assign(0));
        x.addEditor(8, 1);
        Check.due("the distance 1", x.assign(0), 8);
        land.signed(0);
        x.addEditor(9, 0);
        Check.due("the distance 0", x.assign(1), 9);
    }

    /** "is not away" */
    private static void editorAway() {
        Land land = new Land(9);
        Refereehall x = land.x;
        land.signed(0);
        x.sendAway(9, 2);
        x.goOn(1);
        Check.noElement("on the last day", () -> x.assign(0));
        x.goOn(1);
        Check.due("a day later", x.assign(0), 9);
    }

    /** "has no conflict with anybody who is or was its author" */
    private static void editorInConflict() {
        Land land = new Land(9);
        Refereehall x = land.x;
        land.withOneGone(0, 1);
        x.tellMoney(9, 1, 2);
        x.goOn(1);
        Check.noElement("with one who was, to this day", () -> x.assign(0));
        x.goOn(1);
        x.tellMoney(9, 0, 1);
        Check.noElement("with one who is", () -> x.assign(0));
        x.goOn(1);
        Check.due("with neither any more", x.assign(0), 9);
    }

    /** "has fewer than 3 papers" */
    private static void fewerThanThree() {
        Land land = new Land(9);
        Refereehall x = land.x;
        for (int i = 0; i < 3; i++) {
            Check.due("with so many: " + i, x.assign(land.signed(0)), 9);
        }
        land.signed(0);
        Check.noElement("with three", () -> x.assign(3));
    }

    /** "in the states d, e, q, k whose editor this is" */
    private static void whichStatesCount() {
        for (char state : "deqkaxpwt".toCharArray()) {
            Refereehall x = Stage.at(state);
            for (int i = 3; i < 6; i++) {
                x.begin(4, 0, 0);
                x.sign(i, 4);
            }
            x.addEditor(8, 0);
            String order = "deqk".indexOf(state) >= 0 ? "889" : "898";
            String given = "" + x.assign(3) + x.assign(4) + x.assign(5);
            Check.due("the fewest, then the lowest, as 9 has one in state " + state, given, order);
        }
        for (char state : "deqkaxpwt".toCharArray()) {
            Refereehall x = Stage.at(state);
            for (int i = 3; i < 6; i++) {
                x.begin(4, 0, 0);
                x.sign(i, 4);
            }
            x.sendAway(8, 1);
            x.assign(3);
            x.assign(4);
            String due = "deqk".indexOf(state) >= 0 ? "throws.NoSuchElementException" : "9";
            Check.due("with two others, in state " + state, Calls.make(x, "assign", 5).toString(), due);
        }
    }

    /** "and did not reject this paper" */
    private static void whoRejectedIt() {
        Refereehall x = Stage.at('x');
        x.appeal(0);
        Check.due("not 9, who did, though of the field itself", x.assign(0), 8);
        x.setRules(0, 2, 100, 100, 's');
        x.invite(0, 5);
        for (int i = 1; i <= 2; i++) {
            x.answer(0, i, true);
            x.report(0, i, 60, 0, true);
        }
        Check.due("rejected by both", x.decide(0), 'x');
        x.transfer(0, 1);
        Check.noElement("neither of both", () -> x.assign(0));
        x.addEditor(7, 1);
        Check.due("a third one", x.assign(0), 7);
        Refereehall y = Stage.at('k');
        y.seat(0);
        y.vote(0, 5, false);
        y.vote(0, 6, false);
        y.appeal(0);
        Check.due("9, as a committee did", y.assign(0), 9);
    }

    /** "the one with the least distance of any such field, then with the fewest such papers, then the lowest one" */
    private static void firstTheDistance() {
        Land land = new Land();
        Refereehall x = land.x;
        x.tie(0, 1);
        x.addEditor(1, 1);
        x.addEditor(2, 1);
        x.addEditor(8, 1);
        x.addEditor(8, 0);
        x.addEditor(9, 0);
        Check.due("the least distance, the lowest", x.assign(land.signed(0)), 8);
        Check.due("the least distance, the fewest", x.assign(land.signed(0)), 9);
        Check.due("the least distance with one each, the lowest", x.assign(land.signed(0)), 8);
        x.withdraw(0);
        x.withdraw(2);
        Check.due("withdrawn ones are none", x.assign(land.signed(0)), 8);
        x.assign(land.signed(0));
        x.assign(land.signed(0));
        x.assign(land.signed(0));
        x.assign(land.signed(0));
        Check.due("the next distance, the lowest", x.assign(land.signed(0)), 1);
        Check.due("the next distance, the fewest", x.assign(land.signed(0)), 2);
    }
}
