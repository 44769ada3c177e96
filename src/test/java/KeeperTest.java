/** Plays for the promises that their titles name; see Due for what the lines mean. */
public final class KeeperTest {
    public static void main(String[] arguments) {
        Due.play("Promises 30, 31: a keeper of a PUT's numbers", """
            text `var v;a(){for i=1 to 12{x=i%4-1;}x=nil;v=5;v=new[1];}b(){x=9;}` = 2
            watch(0, 0, 5) = 1
            watch(1, 0, 7) = 1
            watch(4, 0, 5) = -1
            watch(-1, 0, 5) = -1
            watch(2, 0, 4) = -1
            watch(2, 0, 0) = -1
            watch(2, 0, 9) = -1
            watch(2, 2, 3) = -1
            watch(2, -1, 3) = -1
            watch(2, 0, -1) = -1
            kept(0, -1, *) = 0 0 0 0 0 0
            begin(0, 0, 0, 0) = 1
            run(20000) = 29
            kept(0, -1, *) = 12 0 4 -1 2 6 0
            kept(0, 0, *) = -1 3 0
            kept(0, 1, *) = 0 3
            kept(0, 2, *) = 1 3
            kept(0, 3, *) = 2 3
            kept(0, 4, *) = 0 0
            kept(0, -2, *) = 0 0
            kept(0, 0, -1) = 0
            kept(0, -1, -1) = 0
            kept(1, -1, *) = 1 0 1 5 5 5
            kept(2, -1, *) = 0 0 0 0 0 0
            kept(4, -1, *) = 0 0 0 0 0 0
            kept(-1, 0, *) = 0 0
            """);
        Due.play("Promise 31: by count, then value; a LOSS takes 1 of all", """
            text `a(){for i=1 to 8{x=i*7%11;y=x;}y=3;y=3;y=5;y=99;y=100;y=101;y=102;y=103;}b(p){x=p;}` = 2
            watch(3, 0, 6) = 1
            watch(2, 0, 7) = 1
            begin(0, 0, 0, 0) = 1
            run(20000) = 34
            kept(3, -1, *) = 8 0 8 1 10 43
            rows(3) = 1 1 / 2 1 / 3 1 / 5 1 / 6 1 / 7 1 / 9 1 / 10 1
            rows(2) = 3 1
            text `a(){for i=1 to 40{x=i*i%13-i%3*(i>20);}}` = 1
            watch(0, 0, 5) = 1
            begin(0, 0, 0, 0) = 1
            run(40) = 40
            rows(0) = 1 3 / 3 3 / 4 3 / 9 3 / 10 3 / 12 3 / 0 1
            kept(0, -1, *) = 19 0 7 0 12 117
            run(20000) = 42
            rows(0) = 3 3 / 0 2 / 1 2 / 10 2 / 4 1 / 9 1 / 11 1 / 12 1
            kept(0, -1, *) = 40 3 8 -2 12 216
            """);
        Due.play("Promise 31: the sum goes beyond an int; the numbers at the edges", """
            text `a(){m=2147483*1000+647;for i=1 to 5{x=m;}for i=1 to 9{x=-m;}}` = 1
            watch(0, 0, 6) = 1
            watch(1, 0, 9) = 1
            begin(0, 0, 0, 0) = 1
            run(20000) = 33
            kept(0, -1, *) = 5 0 1 2147483647 2147483647 10737418235
            kept(1, -1, *) = 9 0 1 -2147483647 -2147483647 -19327352823
            kept(1, 0, *) = -2147483647 9
            """);
        Due.play("Promise 30: watching anew empties, in the midst of a run too; begin() empties; weigh() doesn't", """
            text `a(){for i=1 to 9{x=i;}}` = 1
            watch(0, 0, 5) = 1
            begin(0, 0, 0, 0) = 1
            run(7) = 7
            kept(0, -1, *) = 3 0 3 1 3 6
            watch(0, 0, 5) = 1
            kept(0, -1, *) = 0 0 0 0 0 0
            run(20000) = 13
            kept(0, -1, *) = 6 0 6 4 9 39
            rows(0) = 4 1 / 5 1 / 6 1 / 7 1 / 8 1 / 9 1
            watch(0, 0, 3) = -1
            kept(0, -1, 0) = 6
            weigh(1) = 1
            kept(0, -1, 0) = 6
            begin(0, 0, 0, 0) = 1
            kept(0, -1, 0) = 0
            """);
        Due.play("Promise 31: rows that go in the midst of others; begin() forgets losses", """
            text `a(){x=b(1);x=b(2);x=b(3);x=b(2);x=b(4);x=b(5);x=b(6);x=b(7);x=b(8);x=b(4);x=b(8);x=b(9);x=b(5);}b(p){y=p;return y;}` = 2
            watch(1, 1, 3) = 1
            begin(0, 0, 0, 0) = 1
            run(20000) = 39
            kept(1, -1, *) = 13 1 4 1 9 64
            rows(1) = 2 1 / 4 1 / 5 1 / 8 1
            begin(0, 0, 0, 0) = 1
            kept(1, -1, *) = 0 0 0 0 0 0
            run(6) = 6
            kept(1, -1, *) = 2 0 2 1 2 3
            rows(1) = 1 1 / 2 1
            """);
        Due.end("KeeperTest");
    }
}
