/** How the class is used: README.md shows these lines and what they print. */
public final class Counting {
    public static void main(String[] args) {
        TriColourMachine m = new TriColourMachine();
        m.code(0, 0, 18, 0, 0, 0);      // FUNCTION 0: 0: YIELD register 0
        m.code(0, 1, 1, 1, 0, 1);       //             1: register 1 is the NUMBER 1
        m.code(0, 2, 8, 0, 0, 1);       //             2: register 0 is register 0 + register 1
        m.code(0, 3, 12, 0, 0, 0);      //             3: on at 0
        m.make(0, 0);                   // GLOBAL 0 is a COROUTINE of FUNCTION 0
        m.number(1, 10);                // GLOBAL 1 is the NUMBER 10
        long first = m.resume(0, 1, 2); // 10 goes in, 10 comes out, and GLOBAL 2 is that
        long next = m.resume(0, 1, 2);  // 10 goes in, 11 comes out
        m.move(0, -1);                  // GLOBAL 0 is NIL: nothing refers to the COROUTINE now
        int went = m.full();            // a FULL COLLECTION takes it
        System.out.println(first + " " + next + " " + went);
    }
}
