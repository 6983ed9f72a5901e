/** Promises 1 to 8, 38 and 39: people, their conflicts, and the net of fields. */
public final class PeopleTest {
    public static void main(String[] args) {
        people();
        kin();
        houses();
        houseAfterMove();
        money();
        coAuthors();
        away();
        editorsOfFields();
        net();
        Check.end();
    }

    private static void people() {
        Refereehall x = Check.watch(new Refereehall());
        Check.badArgument("house -1", () -> x.addPerson(-1, 0));
        Check.badArgument("house 10", () -> x.addPerson(10, 0));
        Check.badArgument("words -1", () -> x.addPerson(0, -1));
        Check.badArgument("words 2^20", () -> x.addPerson(0, 1048576));
        Check.due("first person", x.addPerson(0, 1048575), 0);
        for (int i = 1; i < 20; i++) {
            Check.due("next person", x.addPerson(9, 0), i);
        }
        Check.badState("21st person", () -> x.addPerson(0, 0));
        Check.badArgument("21st person with a bad house", () -> x.addPerson(10, 0));
        Check.badArgument("21st person with bad words", () -> x.addPerson(0, -1));
        Check.outOfBounds("no person 20", () -> x.haveConflict(0, 20));
    }

    private static void kin() {
        Refereehall x = Check.watch(new Refereehall());
        Check.outOfBounds("nobody yet", () -> x.tellConflict(0, 0));
        for (int i = 0; i < 4; i++) {
            x.addPerson(i == 3 ? 0 : i, 0);
        }
        Check.outOfBounds("tell -1", () -> x.tellConflict(-1, 0));
        Check.outOfBounds("tell other 4", () -> x.tellConflict(0, 4));
        Check.outOfBounds("have -1", () -> x.haveConflict(-1, 0));
        Check.outOfBounds("have other 4", () -> x.haveConflict(0, 4));
        Check.due("with oneself", x.haveConflict(1, 1), true);
        Check.due("of other houses", x.haveConflict(0, 1), false);
        Check.due("of one house", x.haveConflict(0, 3), true);
        Check.due("told", x.tellConflict(0, 1), true);
        Check.due("told again, the other way", x.tellConflict(1, 0), false);
        Check.due("told of one house", x.tellConflict(3, 0), false);
        Check.due("told of oneself", x.tellConflict(2, 2), false);
        Check.due("kin", x.haveConflict(1, 0), true);
        Check.due("others", x.haveConflict(0, 2), false);
        x.move(3, 9);
        for (int i = 0; i < 9; i++) {
            x.goOn(99);
        }
        Check.due("kin stays", x.haveConflict(0, 1), true);
        Check.due("kin stays behind the house", x.haveConflict(0, 3), true);
    }

    private static void houses() {
        Refereehall x = Check.watch(new Refereehall());
        x.addPerson(0, 0);
        Check.outOfBounds("move nobody", () -> x.move(1, 10));
        Check.outOfBounds("move -1", () -> x.move(-1, 0));
        Check.badArgument("move to 10", () -> x.move(0, 10));
        Check.badArgument("move to -1", () -> x.move(0, -1));
        Check.due("move", x.move(0, 9), 0);
        Check.due("move to the same", x.move(0, 9), 9);
        Check.due("move back", x.move(0, 0), 9);
    }

    private static void houseAfterMove() {
        Refereehall x = Check.watch(new Refereehall());
        x.addPerson(1, 0);
        x.addPerson(1, 0);
        x.addPerson(2, 0);
        x.goOn(5);
        x.move(0, 2);
        Check.due("the house left today", x.haveConflict(0, 1), true);
        Check.due("the same, the other way", x.haveConflict(1, 0), true);
        Check.due("the house entered", x.haveConflict(0, 2), true);
        x.move(0, 3);
        Check.due("the house of one moment", x.haveConflict(2, 0), true);
        x.goOn(59);
        Check.due("59 days ago", x.haveConflict(0, 1), true);
        Check.due("59 days ago, the other way", x.haveConflict(1, 0), true);
        x.goOn(1);
        Check.due("60 days ago", x.haveConflict(0, 1), false);
        Check.due("60 days ago, the other way", x.haveConflict(1, 0), false);
        x.move(1, 4);
        x.addPerson(4, 0);
        x.addPerson(1, 0);
        Check.due("who left the house of another one", x.haveConflict(4, 1), true);
        Check.due("both were of one house, neither is", x.haveConflict(0, 1), false);
        x.move(1, 1);
        x.goOn(60);
        Check.due("back in the house", x.haveConflict(1, 4), true);
        Check.due("of the house between 60 days ago", x.haveConflict(1, 3), false);
    }

    private static void money() {
        Refereehall x = Check.watch(new Refereehall());
        for (int i = 0; i < 3; i++) {
            x.addPerson(i, 0);
        }
        Check.outOfBounds("money of nobody", () -> x.tellMoney(3, 3, 0));
        Check.outOfBounds("money with nobody", () -> x.tellMoney(0, -1, 0));
        Check.outOfBounds("money of 3", () -> x.tellMoney(3, 0, 5));
        Check.outOfBounds("money of -1", () -> x.tellMoney(-1, 0, 5));
        Check.badArgument("money with oneself", () -> x.tellMoney(1, 1, 5));
        Check.badArgument("for 0 days", () -> x.tellMoney(0, 1, 0));
        Check.badArgument("for 1000 days", () -> x.tellMoney(0, 1, 1000));
        x.goOn(10);
        Check.due("last day", x.tellMoney(0, 1, 3), 12);
        Check.due("bound", x.haveConflict(1, 0), true);
        Check.due("not bound", x.haveConflict(1, 2), false);
        Check.due("conflict by money told as kin", x.tellConflict(0, 1), false);
        x.tellMoney(0, 2, 999);
        Check.due("in place", x.tellMoney(2, 0, 2), 11);
        x.goOn(1);
        Check.due("on the last day", x.haveConflict(0, 2), true);
        x.goOn(1);
        Check.due("behind the last day", x.haveConflict(0, 2), false);
        Check.due("behind the last day, the other way", x.haveConflict(2, 0), false);
        Check.due("longest", x.tellMoney(1, 2, 999), 12 + 998);
    }

    private static void coAuthors() {
        Refereehall x = Check.watch(new Refereehall());
        for (int i = 0; i < 4; i++) {
            x.addPerson(i, 0);
        }
        x.begin(0, 0, 0);
        x.addAuthor(0, 1);
        Check.due("unsigned authors", x.haveConflict(0, 1), true);
        x.dropAuthor(0, 1);
        Check.due("an author no more, of the same version", x.haveConflict(0, 1), false);
        x.addAuthor(0, 1);
        x.sign(0, 0);
        x.sign(0, 1);
        x.revise(0, 0);
        x.dropAuthor(0, 1);
        x.addAuthor(0, 2);
        Check.due("authors of an elder version", x.haveConflict(1, 0), true);
        Check.due("authors of the last version", x.haveConflict(2, 0), true);
        Check.due("authors of two versions", x.haveConflict(1, 2), false);
        x.withdraw(0);
        Check.due("authors of a withdrawn paper", x.haveConflict(1, 0), true);
    }

    private static void away() {
        Refereehall x = Check.watch(new Refereehall());
        Check.outOfBounds("away nobody", () -> x.sendAway(0, 100));
        x.addPerson(0, 0);
        Check.outOfBounds("away -1", () -> x.sendAway(-1, 1));
        Check.badArgument("away -1 days", () -> x.sendAway(0, -1));
        Check.badArgument("away 100 days", () -> x.sendAway(0, 100));
        Check.due("away 1 day", x.sendAway(0, 1), 0);
        x.goOn(7);
        Check.due("away 99 days", x.sendAway(0, 99), 105);
        Check.due("away none", x.sendAway(0, 0), 6);
    }

    private static void editorsOfFields() {
        Refereehall x = Check.watch(new Refereehall());
        Check.outOfBounds("editor nobody", () -> x.addEditor(0, 8));
        x.addPerson(0, 0);
        Check.badArgument("editor of -1", () -> x.addEditor(0, -1));
        Check.badArgument("editor of 8", () -> x.addEditor(0, 8));
        Check.due("editor of one", x.addEditor(0, 7), 1);
        Check.due("editor of it again", x.addEditor(0, 7), 1);
        Check.due("editor of two", x.addEditor(0, 0), 2);
    }

    private static void net() {
        Refereehall x = Check.watch(new Refereehall());
        Check.badArgument("tie -1", () -> x.tie(-1, 0));
        Check.badArgument("tie 8", () -> x.tie(0, 8));
        Check.badArgument("tie with itself", () -> x.tie(3, 3));
        Check.badArgument("distance -1", () -> x.distance(-1, 0));
        Check.badArgument("distance 8", () -> x.distance(0, 8));
        Check.due("of itself", x.distance(3, 3), 0);
        Check.due("no way", x.distance(0, 1), -1);
        for (int i = 0; i < 7; i++) {
            Check.due("tie", x.tie(i, i + 1), true);
        }
        Check.due("tied", x.tie(1, 0), false);
        Check.due("end to end", x.distance(0, 7), 7);
        Check.due("back", x.distance(7, 0), 7);
        x.tie(0, 6);
        Check.due("shorter", x.distance(7, 0), 2);
        Check.due("round", x.distance(1, 5), 3);
    }
}
