/** "All registers are 0." */
public final class Promise01NewObjectTest {
    public static void main(String[] args) throws ReflectiveOperationException {
        Sentences.run(Promise01NewObjectTest.class);
    }

    static void everyRegisterFromTheFirstToTheLastIsZero(Checks c) {
        FourTable x = new FourTable();
        for (int r = 0; r < 16; r++) {
            c.due("get(" + r + ")", x.get(r), 0);
        }
    }

    static void anObjectMadeAfterAnotherWasUsedIsZero(Checks c) {
        FourTable used = Held.object();
        used.form(3, 4);
        used.cover(5);
        FourTable x = new FourTable();
        for (int r = 0; r < 16; r++) {
            c.due("get(" + r + ")", x.get(r), 0);
        }
    }

    static void anOlderObjectIsLeftWhenOneIsMadeAndUsed(Checks c) {
        FourTable older = Held.object();
        FourTable x = new FourTable();
        for (int r = 0; r < 16; r++) {
            x.set(r, 65535);
        }
        Held.allLeft(c, "another object", older);
    }

    static void everyReadingCallAnswersForTheTableZeroAtOnce(Checks c) {
        c.due("form(15, 0)", new FourTable().form(15, 0), 0);
        c.due("size(0)", new FourTable().size(0), 2);
        c.due("way(0, 15)", new FourTable().way(0, 15), 0);
        c.due("number(15)", new FourTable().number(15), 0);
        c.due("classForm(221)", new FourTable().classForm(221), 27030);
        c.due("depends(15, 3)", new FourTable().depends(15, 3), false);
        c.due("rises(15, 3)", new FourTable().rises(15, 3), 2);
        c.due("primes(15)", new FourTable().primes(15), 0);
        c.due("cover(15)", new FourTable().cover(15), 0);
        c.due("alike(15)", new FourTable().alike(15), 16);
    }
}
