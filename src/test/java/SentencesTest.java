import java.io.IOException;

/** Each sentence of the document that tells what is answered has a test of its own. */
public final class SentencesTest {
    public static void main(String[] args) throws IOException {
        Sentences told = new Sentences();
        tellTerms(told);
        JointPromises.tell(told);
        SpringPromises.tell(told);
        OilPromises.tell(told);
        QueryPromises.tell(told);
        PlanetPromises.tell(told);
        TotalPromises.tell(told);
        TextPromises.tell(told);
        ScriptPromises.tell(told);
        UndoPromises.tell(told);
        told.end();
        Check.end("SentencesTest");
    }

    private static void tellTerms(Sentences told) {
        told.leaveOut("A workshop for clockwork planets.");
        told.leaveOut("Gears mesh or share axles, springs are wound and drive trains of gears, ratchets "
                + "let gears turn one way only, oil dries up, and planets that are carried by gears stand "
                + "in line for eclipses. The class computes how far gears turn, when planets are in line, "
                + "and how many pairs of gears a wanted ratio needs, in two ways each, and offers "
                + "rankings, accounts, a small command language, undo and a snapshot. It is not "
                + "thread-safe.");
        GearTerms.tell(told);
        SpringTerms.tell(told);
        PlanetTerms.tell(told);
        ScriptTerms.tell(told);
        ChangeTerms.tell(told);
    }
}
